theorem BOTH.mono {U : HT} {V : MT} {B B' : Nat} (h : BOTH U V B) (hB : B ≤ B') : BOTH U V B' := by
  obtain ⟨N, E, w, P, Q, x, ks, kc, ke, tl, tf, ol, of_, fk, h1, h2, h3⟩ := h
  exact ⟨N, E, w, P, Q, x, ks, kc, ke, tl, tf, ol, of_, fk, h1, h2, by omega⟩
theorem LST.mono {D : va_G} {cI cJ cB cZ : ClassId} {s : State} {b i B B' : Nat} {H : Heap} {locs : List Loc} {ls : Array Slot} (h : LST D cI cJ cB cZ s b i B H locs ls) (hB : B ≤ B') : LST D cI cJ cB cZ s b i B' H locs ls := by
  obtain ⟨h, ta, ou, de, ra, od, gr, tb, ob, o1, o2, b1, b2, b3, hm, a1, a2, a3, a4, a5, a6, a7, o, U, V, g, h1, h2⟩ := h
  exact ⟨h, ta, ou, de, ra, od, gr, tb, ob, o1, o2, b1, b2, b3, hm, a1, a2, a3, a4, a5, a6, a7, o, U, V, g, h1.mono hB, h2⟩
theorem arr_known {s : State} {args : Array Value} {ty : FieldType} (h : (Cond.arrayClass ty).before args s = true) : ∃ cA : ClassId, ArrOfT s cA ty ∧ s.vm.findClass ("[" ++ ty.toString) = some cA := by
  obtain ⟨cA, kA, comp, h1, h2, h3⟩ := Cond.arrayClass_spec h
  exact ⟨cA, fun n z => ⟨fun k h => (by cases h), kA, h2, comp, h3⟩, h1⟩
set_option maxHeartbeats 4000000 in
set_option maxRecDepth 100000 in
theorem law_loop {p : Program} {l : Launch} {e : Env} {s : State} {m : MethodId} {below : List Frame} {meth : Method} {c : Code} {b L : Nat} {xs : Nat → Int32} {sc : Nat → Int} {D : va_G} {cI cJ cB cZ : ClassId} {QQ : State → Prop} (C0 : LAT p s m c b L xs sc) (hE : EN D cI cJ cB cZ s) (hst : l.stackTraces = false) (hZ0 : SXZ "java/util/NoSuchElementException" (fun q => s.heap.size ≤ q) s s.heap) (hZ1 : SXZ "java/lang/IllegalArgumentException" (fun q => s.heap.size ≤ q) s s.heap) (fin : ∀ (H : Heap) (locs : List Loc) (ls : Array Slot) (k n : Nat), k ≤ 601024 → n ≤ 7293034 → va_S (fun q => s.heap.size ≤ q) s.heap H locs → W p l e room_1 s m #[Value.ref b] below meth c H locs k n QQ (F0 m 987 ls [])) : ∀ (n i : Nat) (H : Heap) (locs : List Loc) (ls : Array Slot), i ≤ L → L < i + n → LST D cI cJ cB cZ s b i (100 * i) H locs ls → W p l e room_1 s m #[Value.ref b] below meth c H locs (100 + i) (200000 + 6 * i) QQ (F0 m 23 ls []) := by
  obtain ⟨hx, hb, hml, hown, hts, hX, hbl, hL, hsc, hsr⟩ := id C0
  have hbA : ¬ (fun q : Nat => s.heap.size ≤ q) b := Nat.not_le.mpr hbl
  intro n
  induction n with
  | zero =>
    intro i H locs ls h1 h2
    exact absurd h2 (by omega)
  | succ n ih =>
    intro i H locs ls hiL hin hI
    have nxt : ∀ (H : Heap) (locs : List Loc) (ls : Array Slot), i + 6 ≤ L → LST D cI cJ cB cZ s b i (100 * (i + 6)) H locs ls → W p l e room_1 s m #[Value.ref b] below meth c H locs (101 + i) (200006 + 6 * i) QQ (F0 m 981 ls []) := by
      intro H locs ls hle hI
      obtain ⟨h, ta, ou, de, ra, od, gr, tb, ob, o1, o2, b1, b2, b3, hm, a1, a2, a3, a4, a5, a6, a7, o, U, V, g, hB, hP, hD, hS, hl⟩ := hI
      refine lv_iinc (v := iZ (↑i + 6)) (lv' := [(4, .int (iZ (↑i + 6))), (0, .ref b), (1, .ref h), (2, .ref hm), (3, .ref o)]) hx hb dL_law_981 hl (k := 4) rfl (show iZ ↑i + iZ 6 = _ from iZ_add _ _) (by decide) rfl (fun ls hl => ?_)
      refine lv_goto (tgt := 23) hx hb dL_law_984 (by decide) ?_
      refine W.widen (k := 100 + (i + 6)) (n := 200000 + 6 * (i + 6)) (by omega) (by omega) ?_
      exact ih (i + 6) _ _ _ hle (by omega) ⟨h, ta, ou, de, ra, od, gr, tb, ob, o1, o2, b1, b2, b3, hm, a1, a2, a3, a4, a5, a6, a7, o, U, V, g, hB, hP, hD, hS, lv_sub hl [1, 2, 3, 4, 0] rfl⟩
    have nxt := fun (hle : i + 6 ≤ L) (H : Heap) (locs : List Loc) (ls : Array Slot) => nxt H locs ls hle
    obtain ⟨h, ta, ou, de, ra, od, gr, tb, ob, o1, o2, b1, b2, b3, hm, a1, a2, a3, a4, a5, a6, a7, o, U, V, g, -, -, -, hS, hl⟩ := id hI
    refine lv_iload hx hb dL_law_23 (lv_at hl 4 rfl) ?_
    refine lv_aload_n hx hb dL_law_25 rfl (lv_at hl 0 rfl) ?_
    refine z_slen hx hb hX hbl hbA hS dL_law_26 ?_
    refine z_bipush hx hb dL_law_27 (by decide) ?_
    refine z_isub hx hb dL_law_29 ?_
    refine z_icmp_gt (tgt := 987) hx hb dL_law_30 (by decide) (by omega) (by omega) (fun c_1 => ?_) (fun c_1 => ?_)
    · exact fin _ _ _ _ _ (by omega) (by omega) hS
    · have hle : i + 6 ≤ L := by omega
      have hsi := hsr i
      refine lv_aload_n hx hb dL_law_33 rfl (lv_at hl 0 rfl) ?_
      refine lv_iload hx hb dL_law_34 (lv_at hl 4 rfl) ?_
      refine z_sld hx hb hX hbl hbA hS hsc i (by omega) (by omega) (by omega) dL_law_36 ?_
      refine z_bipush hx hb dL_law_37 (by decide) ?_
      refine z_iand ((sc i) % 32) hx hb dL_law_39 (iZ_and31 _) ?_
      have ht_2 := iZ_t (z := (sc i) % 32) (by omega)
      by_cases c_3 : (sc i) % 32 = 0
      · refine lv_tableIn (off := 104) (tgt := 144) hx hb dL_law_40 (by rw [ht_2]; omega) (by rw [ht_2]; omega) (by rw [ht_2, c_3]; rfl) (by decide) ?_
        exact law_feed C0 hE hst hZ0 hZ1 hle hI (nxt hle)
      by_cases c_4 : (sc i) % 32 = 1
      · refine lv_tableIn (off := 177) (tgt := 217) hx hb dL_law_40 (by rw [ht_2]; omega) (by rw [ht_2]; omega) (by rw [ht_2, c_4]; rfl) (by decide) ?_
        exact law_end C0 hE hst hZ0 hZ1 hle hI (nxt hle)
      by_cases c_5 : (sc i) % 32 = 2
      · refine lv_tableIn (off := 202) (tgt := 242) hx hb dL_law_40 (by rw [ht_2]; omega) (by rw [ht_2]; omega) (by rw [ht_2, c_5]; rfl) (by decide) ?_
        exact law_read C0 hE hst hZ0 hZ1 hle hI (nxt hle)
      by_cases c_6 : (sc i) % 32 = 3
      · refine lv_tableIn (off := 215) (tgt := 255) hx hb dL_law_40 (by rw [ht_2]; omega) (by rw [ht_2]; omega) (by rw [ht_2, c_6]; rfl) (by decide) ?_
        exact law_fault C0 hE hst hZ0 hZ1 hle hI (nxt hle)
      by_cases c_7 : (sc i) % 32 = 4
      · refine lv_tableIn (off := 228) (tgt := 268) hx hb dL_law_40 (by rw [ht_2]; omega) (by rw [ht_2]; omega) (by rw [ht_2, c_7]; rfl) (by decide) ?_
        exact law_clear C0 hE hst hZ0 hZ1 hle hI (nxt hle)
      by_cases c_8 : (sc i) % 32 = 5
      · refine lv_tableIn (off := 253) (tgt := 293) hx hb dL_law_40 (by rw [ht_2]; omega) (by rw [ht_2]; omega) (by rw [ht_2, c_8]; rfl) (by decide) ?_
        exact law_add C0 hE hst hZ0 hZ1 hle hI (nxt hle)
      by_cases c_9 : (sc i) % 32 = 6
      · refine lv_tableIn (off := 290) (tgt := 330) hx hb dL_law_40 (by rw [ht_2]; omega) (by rw [ht_2]; omega) (by rw [ht_2, c_9]; rfl) (by decide) ?_
        exact law_cut C0 hE hst hZ0 hZ1 hle hI (nxt hle)
      by_cases c_10 : (sc i) % 32 = 7
      · refine lv_tableIn (off := 327) (tgt := 367) hx hb dL_law_40 (by rw [ht_2]; omega) (by rw [ht_2]; omega) (by rw [ht_2, c_10]; rfl) (by decide) ?_
        exact law_has C0 hE hst hZ0 hZ1 hle hI (nxt hle)
      by_cases c_11 : (sc i) % 32 = 8
      · refine lv_tableIn (off := 364) (tgt := 404) hx hb dL_law_40 (by rw [ht_2]; omega) (by rw [ht_2]; omega) (by rw [ht_2, c_11]; rfl) (by decide) ?_
        exact law_edges C0 hE hst hZ0 hZ1 hle hI (nxt hle)
      by_cases c_12 : (sc i) % 32 = 9
      · refine lv_tableIn (off := 432) (tgt := 472) hx hb dL_law_40 (by rw [ht_2]; omega) (by rw [ht_2]; omega) (by rw [ht_2, c_12]; rfl) (by decide) ?_
        exact law_other C0 hE hst hZ0 hZ1 hle hI (nxt hle)
      by_cases c_13 : (sc i) % 32 = 10
      · refine lv_tableIn (off := 481) (tgt := 521) hx hb dL_law_40 (by rw [ht_2]; omega) (by rw [ht_2]; omega) (by rw [ht_2, c_13]; rfl) (by decide) ?_
        exact law_weight C0 hE hst hZ0 hZ1 hle hI (nxt hle)
      by_cases c_14 : (sc i) % 32 = 11
      · refine lv_tableIn (off := 518) (tgt := 558) hx hb dL_law_40 (by rw [ht_2]; omega) (by rw [ht_2]; omega) (by rw [ht_2, c_14]; rfl) (by decide) ?_
        exact law_damping C0 hE hst hZ0 hZ1 hle hI (nxt hle)
      by_cases c_15 : (sc i) % 32 = 12
      · refine lv_tableIn (off := 555) (tgt := 595) hx hb dL_law_40 (by rw [ht_2]; omega) (by rw [ht_2]; omega) (by rw [ht_2, c_15]; rfl) (by decide) ?_
        exact law_run C0 hE hst hZ0 hZ1 hle hI (nxt hle)
      by_cases c_16 : (sc i) % 32 = 13
      · refine lv_tableIn (off := 655) (tgt := 695) hx hb dL_law_40 (by rw [ht_2]; omega) (by rw [ht_2]; omega) (by rw [ht_2, c_16]; rfl) (by decide) ?_
        exact law_again C0 hE hst hZ0 hZ1 hle hI (nxt hle)
      by_cases c_17 : (sc i) % 32 = 14
      · refine lv_tableIn (off := 666) (tgt := 706) hx hb dL_law_40 (by rw [ht_2]; omega) (by rw [ht_2]; omega) (by rw [ht_2, c_17]; rfl) (by decide) ?_
        exact law_rank C0 hE hst hZ0 hZ1 hle hI (nxt hle)
      by_cases c_18 : (sc i) % 32 = 15
      · refine lv_tableIn (off := 721) (tgt := 761) hx hb dL_law_40 (by rw [ht_2]; omega) (by rw [ht_2]; omega) (by rw [ht_2, c_18]; rfl) (by decide) ?_
        exact law_look C0 hE hst hZ0 hZ1 hle hI (nxt hle)
      by_cases c_19 : (sc i) % 32 = 16
      · refine lv_tableIn (off := 747) (tgt := 787) hx hb dL_law_40 (by rw [ht_2]; omega) (by rw [ht_2]; omega) (by rw [ht_2, c_19]; rfl) (by decide) ?_
        exact law_top C0 hE hst hZ0 hZ1 hle hI (nxt hle)
      by_cases c_20 : (sc i) % 32 = 17
      · refine lv_tableIn (off := 772) (tgt := 812) hx hb dL_law_40 (by rw [ht_2]; omega) (by rw [ht_2]; omega) (by rw [ht_2, c_20]; rfl) (by decide) ?_
        exact law_gives C0 hE hst hZ0 hZ1 hle hI (nxt hle)
      by_cases c_21 : (sc i) % 32 = 18
      · refine lv_tableIn (off := 810) (tgt := 850) hx hb dL_law_40 (by rw [ht_2]; omega) (by rw [ht_2]; omega) (by rw [ht_2, c_21]; rfl) (by decide) ?_
        exact law_giver C0 hE hst hZ0 hZ1 hle hI (nxt hle)
      by_cases c_22 : (sc i) % 32 = 19
      · refine lv_tableIn (off := 847) (tgt := 887) hx hb dL_law_40 (by rw [ht_2]; omega) (by rw [ht_2]; omega) (by rw [ht_2, c_22]; rfl) (by decide) ?_
        exact law_write C0 hE hst hZ0 hZ1 hle hI (nxt hle)
      by_cases c_23 : (sc i) % 32 = 20
      · refine lv_tableIn (off := 860) (tgt := 900) hx hb dL_law_40 (by rw [ht_2]; omega) (by rw [ht_2]; omega) (by rw [ht_2, c_23]; rfl) (by decide) ?_
        exact law_octet C0 hE hst hZ0 hZ1 hle hI (nxt hle)
      by_cases c_24 : (sc i) % 32 = 21
      · refine lv_tableIn (off := 916) (tgt := 956) hx hb dL_law_40 (by rw [ht_2]; omega) (by rw [ht_2]; omega) (by rw [ht_2, c_24]; rfl) (by decide) ?_
        exact law_count C0 hE hst hZ0 hZ1 hle hI (nxt hle)
      refine lv_tableOut (tgt := 981) hx hb dL_law_40 (by rw [ht_2]; omega) (by decide) ?_
      exact W.widen (k := 101 + i) (n := 200006 + 6 * i) (by omega) (by omega) (nxt hle _ _ _ (hI.mono (by omega)))
set_option maxHeartbeats 4000000 in
set_option maxRecDepth 100000 in
theorem law_start {p : Program} {l : Launch} {e : Env} {s : State} {m : MethodId} {below : List Frame} {meth : Method} {c : Code} {b L : Nat} {xs : Nat → Int32} {sc : Nat → Int} {D : va_G} {cI cJ cB cZ : ClassId} {QQ : State → Prop} (C0 : LAT p s m c b L xs sc) (hE : EN D cI cJ cB cZ s) (hst : l.stackTraces = false) (hZ0 : SXZ "java/util/NoSuchElementException" (fun q => s.heap.size ≤ q) s s.heap) (hZ1 : SXZ "java/lang/IllegalArgumentException" (fun q => s.heap.size ≤ q) s s.heap) (fin : ∀ (H : Heap) (locs : List Loc) (ls : Array Slot) (k n : Nat), k ≤ 601024 → n ≤ 7293034 → va_S (fun q => s.heap.size ≤ q) s.heap H locs → W p l e room_1 s m #[Value.ref b] below meth c H locs k n QQ (F0 m 987 ls [])) : W p l e room_1 s m #[Value.ref b] below meth c s.heap [] 0 0 QQ (entryFrame m ([Value.ref b] : List Value).toArray 8) := by
  obtain ⟨hx, hb, hml, hown, hts, hX, hbl, hL, hsc, hsr⟩ := id C0
  have hK := hE.1
  obtain ⟨A, hAe⟩ : ∃ A : Nat → Prop, A = fun q : Nat => s.heap.size ≤ q := ⟨_, rfl⟩
  have hA : ∀ q : Nat, s.heap.size ≤ q → A q := fun q h9 => by rw [hAe]; exact h9
  have hS : va_S A s.heap s.heap [] := va_S.rf
  have hP : va_P D vwCl [] s.heap := fun k q h9 => by simp at h9
  have hD : va_D A [] := ⟨fun i j p q h9 => by simp at h9, fun k q h9 => by simp at h9⟩
  have hi_5 : ∀ w ∈ wsX50, w ∈ wsL_law := inlX5
  have hi_6 : ∀ w ∈ wsX60, w ∈ wsL_law := inlX6
  have hw_1 := hts (.classLink RL 8 RX5) (by decide +kernel)
  have hw_2 := hts (.instantiable RX5 6) (by decide +kernel)
  have hw_3 := hts (.initialized RX5) (by decide +kernel)
  have hw_4 := hts (.methodLink RL 29 yX5_init) (by decide +kernel)
  have hw_5 := hts (.instanceMethod yX5_init) (by decide +kernel)
  have hw_6 := hts (.classLink RL 30 RX6) (by decide +kernel)
  have hw_7 := hts (.instantiable RX6 24) (by decide +kernel)
  have hw_8 := hts (.initialized RX6) (by decide +kernel)
  have hw_9 := hts (.methodLink RL 32 yX6_init) (by decide +kernel)
  have hw_10 := hts (.instanceMethod yX6_init) (by decide +kernel)
  have hw_11 := hts (.arrayClass .long) (by decide +kernel)
  have hl := lv_entry ([.ref b]) (n := 8) (Nat.le_of_ble_eq_true rfl)
  rw [lg_entry_eq]
  generalize (lg_sl ([.ref b]) ++ List.replicate (8 - (lg_sl ([.ref b])).length) Slot.unset).toArray = ls at hl ⊢
  have hl : lv_has ls 8 [(0, .ref b)] := hl
  refine va_new (C := RX5) (T := TX5) (N := 6) (ci := 5) (fs := [.null, .null, .null, .null, .null, .null]) hx hb hts hi_5 tyX5 tyX5_ok hown hw_1 hw_2 hw_3 hK hP hD hS hA rfl dfX5 (Nat.le_of_ble_eq_true rfl) (Nat.le_of_ble_eq_true rfl) dL_law_0 (fun q_1 H hP hD hS => ?_)
  have hP : va_P D vwCl ([(q_1, .inr (5, [.null, .null, .null, .null, .null, .null]))]) H := hP
  have hD : va_D A ([(q_1, .inr (5, [.null, .null, .null, .null, .null, .null]))]) := hD
  refine lv_dup hx hb dL_law_3 rfl ?_
  refine rw_v (wr := []) (va_runI (As := []) (rest := [.ref q_1]) ⟨hx, hb, hml, hown, hts⟩ (c_X5_init l D cI cJ cB cZ q_1 _) (cwI 0 hts ggL_law_X5_init rfl rfl rfl hw_3 hw_4 hw_5 rfl (by decide +kernel) ⟨Nat.le_of_ble_eq_true rfl, Nat.le_of_ble_eq_true rfl⟩) (pre1S hE hP hD) rfl rfl hl.1 rfl (lv_room (Nat.le_of_ble_eq_true rfl)) dL_law_4 ⟨Nat.le_of_ble_eq_true rfl, Nat.le_of_ble_eq_true rfl⟩) hP hD hS hA [0] [] rfl rfl (by decide) (by decide) (fun u_4 H locs hr_3 hP hD hS => ?_)
  have hP := hP.sub (ws' := (wHT cI cJ q_1 u_4.1.1 u_4.1.2.1 u_4.1.2.2.1 u_4.1.2.2.2.1 u_4.1.2.2.2.2.1 u_4.1.2.2.2.2.2.1 u_4.1.2.2.2.2.2.2.1 u_4.1.2.2.2.2.2.2.2.1 u_4.1.2.2.2.2.2.2.2.2.1 u_4.1.2.2.2.2.2.2.2.2.2.1 u_4.1.2.2.2.2.2.2.2.2.2.2.1 u_4.1.2.2.2.2.2.2.2.2.2.2.2.1 u_4.1.2.2.2.2.2.2.2.2.2.2.2.2 u_4.2)) [0, 1, 2, 3, 4, 5, 6, 7, 8, 9, 10, 11, 12, 13, 14, 15] rfl
  have hD := hD.sub (ws' := (wHT cI cJ q_1 u_4.1.1 u_4.1.2.1 u_4.1.2.2.1 u_4.1.2.2.2.1 u_4.1.2.2.2.2.1 u_4.1.2.2.2.2.2.1 u_4.1.2.2.2.2.2.2.1 u_4.1.2.2.2.2.2.2.2.1 u_4.1.2.2.2.2.2.2.2.2.1 u_4.1.2.2.2.2.2.2.2.2.2.1 u_4.1.2.2.2.2.2.2.2.2.2.2.1 u_4.1.2.2.2.2.2.2.2.2.2.2.2.1 u_4.1.2.2.2.2.2.2.2.2.2.2.2.2 u_4.2)) [0, 1, 2, 3, 4, 5, 6, 7, 8, 9, 10, 11, 12, 13, 14, 15] (by decide) rfl
  have k1 := hr_3
  refine lv_astore_n (lv' := [(1, .ref q_1), (0, .ref b)]) hx hb dL_law_7 rfl hl (by decide) rfl (fun ls hl => ?_)
  refine va_new (C := RX6) (T := TX6) (N := 24) (ci := 6) (fs := [.int (iZ 0), .null, .null, .null, .null, .null, .int (iZ 0), .int (iZ 0), .int (iZ 0), .int (iZ 0), .int (iZ 0), .long (lZ 0), .long (lZ 0), .null, .int (iZ 0), .int (iZ 0), .int (iZ 0), .int (iZ 0), .int (iZ 0), .int (iZ 0), .int (iZ 0), .int (iZ 0), .null, .int (iZ 0)]) hx hb hts hi_6 tyX6 tyX6_ok hown hw_6 hw_7 hw_8 hK hP hD hS hA rfl dfX6 (Nat.le_of_ble_eq_true rfl) (Nat.le_of_ble_eq_true rfl) dL_law_8 (fun q_5 H hP hD hS => ?_)
  have hP : va_P D vwCl (wHT cI cJ q_1 u_4.1.1 u_4.1.2.1 u_4.1.2.2.1 u_4.1.2.2.2.1 u_4.1.2.2.2.2.1 u_4.1.2.2.2.2.2.1 u_4.1.2.2.2.2.2.2.1 u_4.1.2.2.2.2.2.2.2.1 u_4.1.2.2.2.2.2.2.2.2.1 u_4.1.2.2.2.2.2.2.2.2.2.1 u_4.1.2.2.2.2.2.2.2.2.2.2.1 u_4.1.2.2.2.2.2.2.2.2.2.2.2.1 u_4.1.2.2.2.2.2.2.2.2.2.2.2.2 u_4.2 ++ [(q_5, .inr (6, [.int (iZ 0), .null, .null, .null, .null, .null, .int (iZ 0), .int (iZ 0), .int (iZ 0), .int (iZ 0), .int (iZ 0), .long (lZ 0), .long (lZ 0), .null, .int (iZ 0), .int (iZ 0), .int (iZ 0), .int (iZ 0), .int (iZ 0), .int (iZ 0), .int (iZ 0), .int (iZ 0), .null, .int (iZ 0)]))]) H := hP
  have hD : va_D A (wHT cI cJ q_1 u_4.1.1 u_4.1.2.1 u_4.1.2.2.1 u_4.1.2.2.2.1 u_4.1.2.2.2.2.1 u_4.1.2.2.2.2.2.1 u_4.1.2.2.2.2.2.2.1 u_4.1.2.2.2.2.2.2.2.1 u_4.1.2.2.2.2.2.2.2.2.1 u_4.1.2.2.2.2.2.2.2.2.2.1 u_4.1.2.2.2.2.2.2.2.2.2.2.1 u_4.1.2.2.2.2.2.2.2.2.2.2.2.1 u_4.1.2.2.2.2.2.2.2.2.2.2.2.2 u_4.2 ++ [(q_5, .inr (6, [.int (iZ 0), .null, .null, .null, .null, .null, .int (iZ 0), .int (iZ 0), .int (iZ 0), .int (iZ 0), .int (iZ 0), .long (lZ 0), .long (lZ 0), .null, .int (iZ 0), .int (iZ 0), .int (iZ 0), .int (iZ 0), .int (iZ 0), .int (iZ 0), .int (iZ 0), .int (iZ 0), .null, .int (iZ 0)]))]) := hD
  refine lv_dup hx hb dL_law_11 rfl ?_
  refine rw_v (wr := [(q_1, .inr (5, [.ref u_4.1.1, .ref u_4.1.2.1, .ref u_4.1.2.2.1, .ref u_4.1.2.2.2.1, .ref u_4.1.2.2.2.2.1, .ref u_4.1.2.2.2.2.2.1])), (u_4.1.1, .inr (0, [.ref u_4.1.2.2.2.2.2.2.1, .int (iZ u_4.2.1.2)])), (u_4.1.2.2.2.2.2.2.1, .inl (cI, 2000, .inl (aI u_4.2.1.1))), (u_4.1.2.1, .inr (0, [.ref u_4.1.2.2.2.2.2.2.2.1, .int (iZ u_4.2.2.1.2)])), (u_4.1.2.2.2.2.2.2.2.1, .inl (cI, 3502, .inl (aI u_4.2.2.1.1))), (u_4.1.2.2.1, .inr (1, [.int (iZ u_4.2.2.2.1.1), .int (iZ u_4.2.2.2.1.2.1), .int (iZ u_4.2.2.2.1.2.2.1), .int (iZ u_4.2.2.2.1.2.2.2.1), .int (iZ u_4.2.2.2.1.2.2.2.2)])), (u_4.1.2.2.2.1, .inr (4, [.ref u_4.2.2.2.2.1.1.1, .ref u_4.2.2.2.2.1.1.2, .int (iZ u_4.2.2.2.2.1.2.2.2.1), .int (iZ u_4.2.2.2.2.1.2.2.2.2.1), .int (iZ u_4.2.2.2.2.1.2.2.2.2.2.1), .long (lZ u_4.2.2.2.2.1.2.2.2.2.2.2.1), .long (lZ u_4.2.2.2.2.1.2.2.2.2.2.2.2)])), (u_4.2.2.2.2.1.1.1, .inl (cJ, 250, .inr (.inl (aL u_4.2.2.2.2.1.2.1)))), (u_4.2.2.2.2.1.1.2, .inl (cJ, 250, .inr (.inl (aL u_4.2.2.2.2.1.2.2.1)))), (u_4.1.2.2.2.2.1, .inr (3, [.ref u_4.1.2.2.2.2.2.2.2.2.1, .ref u_4.1.2.2.2.2.2.2.2.2.2.1, .int (iZ u_4.2.2.2.2.2.1.2.2)])), (u_4.1.2.2.2.2.2.2.2.2.1, .inl (cI, 250, .inl (aI u_4.2.2.2.2.2.1.1))), (u_4.1.2.2.2.2.2.2.2.2.2.1, .inl (cJ, 250, .inr (.inl (aL u_4.2.2.2.2.2.1.2.1)))), (u_4.1.2.2.2.2.2.1, .inr (2, [.ref u_4.1.2.2.2.2.2.2.2.2.2.2.1, .ref u_4.1.2.2.2.2.2.2.2.2.2.2.2.1, .ref u_4.1.2.2.2.2.2.2.2.2.2.2.2.2, .int (iZ u_4.2.2.2.2.2.2.2.2.2.1), .int (iZ u_4.2.2.2.2.2.2.2.2.2.2.1), .int (iZ u_4.2.2.2.2.2.2.2.2.2.2.2)])), (u_4.1.2.2.2.2.2.2.2.2.2.2.1, .inl (cI, 251, .inl (aI u_4.2.2.2.2.2.2.1))), (u_4.1.2.2.2.2.2.2.2.2.2.2.2.1, .inl (cI, 2500, .inl (aI u_4.2.2.2.2.2.2.2.1))), (u_4.1.2.2.2.2.2.2.2.2.2.2.2.2, .inl (cI, 250, .inl (aI u_4.2.2.2.2.2.2.2.2.1)))]) (va_runI (As := []) (rest := [.ref q_5]) ⟨hx, hb, hml, hown, hts⟩ (c_X6_init l D cI cJ cB cZ q_5 _) (cwI 0 hts ggL_law_X6_init rfl rfl rfl hw_8 hw_9 hw_10 rfl (by decide +kernel) ⟨Nat.le_of_ble_eq_true rfl, Nat.le_of_ble_eq_true rfl⟩) (pre1S hE (hP.sub (ws' := ([(q_5, .inr (6, [.int (iZ 0), .null, .null, .null, .null, .null, .int (iZ 0), .int (iZ 0), .int (iZ 0), .int (iZ 0), .int (iZ 0), .long (lZ 0), .long (lZ 0), .null, .int (iZ 0), .int (iZ 0), .int (iZ 0), .int (iZ 0), .int (iZ 0), .int (iZ 0), .int (iZ 0), .int (iZ 0), .null, .int (iZ 0)]))])) [16] rfl) (hD.sub (ws' := ([(q_5, .inr (6, [.int (iZ 0), .null, .null, .null, .null, .null, .int (iZ 0), .int (iZ 0), .int (iZ 0), .int (iZ 0), .int (iZ 0), .long (lZ 0), .long (lZ 0), .null, .int (iZ 0), .int (iZ 0), .int (iZ 0), .int (iZ 0), .int (iZ 0), .int (iZ 0), .int (iZ 0), .int (iZ 0), .null, .int (iZ 0)]))])) [16] (by decide) rfl)) rfl rfl hl.1 rfl (lv_room (Nat.le_of_ble_eq_true rfl)) dL_law_12 ⟨Nat.le_of_ble_eq_true rfl, Nat.le_of_ble_eq_true rfl⟩) hP hD hS hA [16] [0, 1, 2, 3, 4, 5, 6, 7, 8, 9, 10, 11, 12, 13, 14, 15] rfl rfl (by decide) (by decide) (fun u_8 H locs hr_7 hP hD hS => ?_)
  have hP := hP.sub (ws' := (wHT cI cJ q_1 u_4.1.1 u_4.1.2.1 u_4.1.2.2.1 u_4.1.2.2.2.1 u_4.1.2.2.2.2.1 u_4.1.2.2.2.2.2.1 u_4.1.2.2.2.2.2.2.1 u_4.1.2.2.2.2.2.2.2.1 u_4.1.2.2.2.2.2.2.2.2.1 u_4.1.2.2.2.2.2.2.2.2.2.1 u_4.1.2.2.2.2.2.2.2.2.2.2.1 u_4.1.2.2.2.2.2.2.2.2.2.2.2.1 u_4.1.2.2.2.2.2.2.2.2.2.2.2.2 u_4.2 ++ wM cI cJ cB cZ q_5 u_8.1.1 u_8.1.2.1 u_8.1.2.2.1 u_8.1.2.2.2.1 u_8.1.2.2.2.2.1 u_8.1.2.2.2.2.2.1 u_8.1.2.2.2.2.2.2 u_8.2)) [0, 1, 2, 3, 4, 5, 6, 7, 8, 9, 10, 11, 12, 13, 14, 15, 16, 17, 18, 19, 20, 21, 22, 23] rfl
  have hD := hD.sub (ws' := (wHT cI cJ q_1 u_4.1.1 u_4.1.2.1 u_4.1.2.2.1 u_4.1.2.2.2.1 u_4.1.2.2.2.2.1 u_4.1.2.2.2.2.2.1 u_4.1.2.2.2.2.2.2.1 u_4.1.2.2.2.2.2.2.2.1 u_4.1.2.2.2.2.2.2.2.2.1 u_4.1.2.2.2.2.2.2.2.2.2.1 u_4.1.2.2.2.2.2.2.2.2.2.2.1 u_4.1.2.2.2.2.2.2.2.2.2.2.2.1 u_4.1.2.2.2.2.2.2.2.2.2.2.2.2 u_4.2 ++ wM cI cJ cB cZ q_5 u_8.1.1 u_8.1.2.1 u_8.1.2.2.1 u_8.1.2.2.2.1 u_8.1.2.2.2.2.1 u_8.1.2.2.2.2.2.1 u_8.1.2.2.2.2.2.2 u_8.2)) [0, 1, 2, 3, 4, 5, 6, 7, 8, 9, 10, 11, 12, 13, 14, 15, 16, 17, 18, 19, 20, 21, 22, 23] (by decide) rfl
  have k2 := hr_7
  refine lv_astore_n (lv' := [(2, .ref q_5), (1, .ref q_1), (0, .ref b)]) hx hb dL_law_15 rfl hl (by decide) rfl (fun ls hl => ?_)
  refine z_iconst hx hb dL_law_16 ?_
  refine z_newJ hx hb hw_11 hK hP hD hS hA 1 rfl (by omega) (Nat.le_of_ble_eq_true rfl) (Nat.le_of_ble_eq_true rfl) dL_law_17 (fun q_9 H hP hD hS => ?_)
  have hP : va_P D vwCl (wHT cI cJ q_1 u_4.1.1 u_4.1.2.1 u_4.1.2.2.1 u_4.1.2.2.2.1 u_4.1.2.2.2.2.1 u_4.1.2.2.2.2.2.1 u_4.1.2.2.2.2.2.2.1 u_4.1.2.2.2.2.2.2.2.1 u_4.1.2.2.2.2.2.2.2.2.1 u_4.1.2.2.2.2.2.2.2.2.2.1 u_4.1.2.2.2.2.2.2.2.2.2.2.1 u_4.1.2.2.2.2.2.2.2.2.2.2.2.1 u_4.1.2.2.2.2.2.2.2.2.2.2.2.2 u_4.2 ++ wM cI cJ cB cZ q_5 u_8.1.1 u_8.1.2.1 u_8.1.2.2.1 u_8.1.2.2.2.1 u_8.1.2.2.2.2.1 u_8.1.2.2.2.2.2.1 u_8.1.2.2.2.2.2.2 u_8.2 ++ [(q_9, .inl (cJ, 1, .inr (.inl (aL (fun _ => 0)))))]) H := hP
  have hD : va_D A (wHT cI cJ q_1 u_4.1.1 u_4.1.2.1 u_4.1.2.2.1 u_4.1.2.2.2.1 u_4.1.2.2.2.2.1 u_4.1.2.2.2.2.2.1 u_4.1.2.2.2.2.2.2.1 u_4.1.2.2.2.2.2.2.2.1 u_4.1.2.2.2.2.2.2.2.2.1 u_4.1.2.2.2.2.2.2.2.2.2.1 u_4.1.2.2.2.2.2.2.2.2.2.2.1 u_4.1.2.2.2.2.2.2.2.2.2.2.2.1 u_4.1.2.2.2.2.2.2.2.2.2.2.2.2 u_4.2 ++ wM cI cJ cB cZ q_5 u_8.1.1 u_8.1.2.1 u_8.1.2.2.1 u_8.1.2.2.2.1 u_8.1.2.2.2.2.1 u_8.1.2.2.2.2.2.1 u_8.1.2.2.2.2.2.2 u_8.2 ++ [(q_9, .inl (cJ, 1, .inr (.inl (aL (fun _ => 0)))))]) := hD
  refine lv_astore_n (lv' := [(3, .ref q_9), (2, .ref q_5), (1, .ref q_1), (0, .ref b)]) hx hb dL_law_19 rfl hl (by decide) rfl (fun ls hl => ?_)
  refine z_iconst hx hb dL_law_20 ?_
  refine lv_istore (lv' := [(4, .int (iZ 0)), (3, .ref q_9), (2, .ref q_5), (1, .ref q_1), (0, .ref b)]) hx hb dL_law_21 hl (by decide) rfl (fun ls hl => ?_)
  subst hAe
  refine W.widen (k := 100 + 0) (n := 200000 + 6 * 0) (Nat.le_of_ble_eq_true rfl) (Nat.le_of_ble_eq_true rfl) ?_
  exact law_loop C0 hE hst hZ0 hZ1 fin (L + 1) 0 _ _ _ (Nat.zero_le L) (by omega) ⟨q_1, u_4.1.1, u_4.1.2.1, u_4.1.2.2.1, u_4.1.2.2.2.1, u_4.1.2.2.2.2.1, u_4.1.2.2.2.2.2.1, u_4.1.2.2.2.2.2.2.1, u_4.1.2.2.2.2.2.2.2.1, u_4.1.2.2.2.2.2.2.2.2.1, u_4.1.2.2.2.2.2.2.2.2.2.1, u_4.1.2.2.2.2.2.2.2.2.2.2.1, u_4.1.2.2.2.2.2.2.2.2.2.2.2.1, u_4.1.2.2.2.2.2.2.2.2.2.2.2.2, q_5, u_8.1.1, u_8.1.2.1, u_8.1.2.2.1, u_8.1.2.2.2.1, u_8.1.2.2.2.2.1, u_8.1.2.2.2.2.2.1, u_8.1.2.2.2.2.2.2, q_9, u_4.2, u_8.2, (fun _ => 0), ⟨_, _, _, _, _, _, _, _, _, _, _, _, _, _, k1, k2, Nat.le_refl _⟩, hP, hD, hS, lv_sub hl [4, 3, 2, 1, 0] rfl⟩
