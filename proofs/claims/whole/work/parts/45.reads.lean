set_option maxHeartbeats 4000000 in
set_option maxRecDepth 100000 in
theorem c_X6_reads (l : Launch) (D : va_G) (cI cJ cB cZ : ClassId) (h a1 a2 a3 a4 a5 a6 a7 : Nat) (thr : Int) (eg fr wt rk nx : Nat → Int) (nd es pp qq st ch bo : Int) (tp : Nat → Int) (le sz at_ fa fp nu fm nn : Int) (ou : Nat → Int) (om : Int) (tf : Nat → Int) (L : Nat) (hT : ∀ j, j < L → tp j = sb (tf j) ∧ 0 ≤ tf j ∧ tf j < 256) (hL : L ≤ 2000) (hsz : sz = (L : Int)) (ha0 : 0 ≤ at_ ∧ at_ ≤ sz)  (sz0 : Nat) : Met l yX6_reads wsX6_reads ({ frames := 1, cells := 0, slots := 0, locals := 22 } : Room) (Pre1 D cI cJ cB cZ [.ref h] (wMo cI cJ cB cZ h a1 a2 a3 a4 a5 a6 a7 thr eg fr wt rk nx nd es pp qq st ch bo tp le sz at_ fa fp nu fm nn ou om) sz0) (rwI (S := Int × Int × Int × Int × Int) D (fun z U => mR (uns tf L at_.toNat) fa fp at_ z U.1 U.2.1 U.2.2.1 U.2.2.2.1 U.2.2.2.2) (fun u => wMo cI cJ cB cZ h a1 a2 a3 a4 a5 a6 a7 thr eg fr wt rk nx nd es pp qq st ch bo tp le sz u.1 u.2.1 u.2.2.1 u.2.2.2.1 u.2.2.2.2 nn ou om) (va_A (wMo cI cJ cB cZ h a1 a2 a3 a4 a5 a6 a7 thr eg fr wt rk nx nd es pp qq st ch bo tp le sz at_ fa fp nu fm nn ou om) sz0)) 0 0 (va_A (wMo cI cJ cB cZ h a1 a2 a3 a4 a5 a6 a7 thr eg fr wt rk nx nd es pp qq st ch bo tp le sz at_ fa fp nu fm nn ou om) sz0) := by
  refine Met.ofW (cc := cX6_reads) (maxL := 3) (ret := (some .boolean)) (by decide) rfl ?_
  intro p e s m args below meth c s₁ B hml hv
  obtain ⟨rfl, hsz, hP, hE, hD0⟩ := hv
  have hx := B.exec
  have hb := B.bytes
  have hr := B.returns
  have hts := atoms_spec (ws := wsX6_reads) B.pre
  have hown : s.vm.findClass RX6 = some m.cls := findClass_of_methodNamed B.named
  have hlocks := B.notSynchronized
  have hK := hE.1
  subst hsz
  have hD := hD0.self (sz := s.heap.size)
  generalize hAe : va_A (wMo cI cJ cB cZ h a1 a2 a3 a4 a5 a6 a7 thr eg fr wt rk nx nd es pp qq st ch bo tp le sz at_ fa fp nu fm nn ou om) s.heap.size = A at hD ⊢
  have hA : ∀ q : Nat, s.heap.size ≤ q → A q := fun q h => by rw [← hAe]; exact Or.inr h
  have hS : va_S A s.heap s.heap [] := va_S.rf
  have hP : va_P D vwCl (wMo cI cJ cB cZ h a1 a2 a3 a4 a5 a6 a7 thr eg fr wt rk nx nd es pp qq st ch bo tp le sz at_ fa fp nu fm nn ou om) s.heap := hP
  have hi_6 : ∀ w ∈ wsX60, w ∈ wsX6_reads := by decide +kernel
  have hw_1 := hts (.fieldLink RX6 78 "RankHouseModel" "at" "I") (by decide +kernel)
  have hw_2 := hts (.fieldLink RX6 81 "RankHouseModel" "from" "I") (by decide +kernel)
  have hw_3 := hts (.fieldLink RX6 84 "RankHouseModel" "number" "I") (by decide +kernel)
  have hw_4 := hts (.fieldLink RX6 87 "RankHouseModel" "size" "I") (by decide +kernel)
  have hw_5 := hts (.fieldLink RX6 41 "RankHouseModel" "tape" "[B") (by decide +kernel)
  have hw_6 := hts (.constant RX6 94 (65536)) (by decide +kernel)
  have hl := lv_entry ([.ref h]) (n := 3) (Nat.le_of_ble_eq_true rfl)
  rw [lg_entry_eq]
  generalize (lg_sl ([.ref h]) ++ List.replicate (3 - (lg_sl ([.ref h])).length) Slot.unset).toArray = ls at hl ⊢
  have hl : lv_has ls 3 [(0, .ref h)] := hl
  refine lv_aload_n hx hb dX6_reads_0 rfl (lv_at hl 0 rfl) ?_
  refine lv_aload_n hx hb dX6_reads_1 rfl (lv_at hl 0 rfl) ?_
  refine va_get (v := .int (iZ at_)) (C := RX6) (T := TX6) (N := 24) (ci := 6) hx hb hts hi_6 hown hK hP 0 rfl rfl 16 (by decide) hw_1 (fun _ h9 => h9) rfl dX6_reads_2 ?_
  refine va_put (v := .int (iZ at_)) (ty := .int) (C := RX6) (T := TX6) (N := 24) (ci := 6) hx hb hts hi_6 tyX6 tyX6_ok nmX6 hown hK hP hD hS 0 rfl rfl 20 (by decide) hw_2 (fun _ h9 => h9) rfl (by decide +kernel) rfl rfl (Nat.le_of_ble_eq_true rfl) dX6_reads_5 (fun H locs hP hD hS => ?_)
  have hP : va_P D vwCl (wMo cI cJ cB cZ h a1 a2 a3 a4 a5 a6 a7 thr eg fr wt rk nx nd es pp qq st ch bo tp le sz at_ fa fp nu at_ nn ou om) H := hP
  have hD : va_D A (wMo cI cJ cB cZ h a1 a2 a3 a4 a5 a6 a7 thr eg fr wt rk nx nd es pp qq st ch bo tp le sz at_ fa fp nu at_ nn ou om) := hD
  refine lv_aload_n hx hb dX6_reads_8 rfl (lv_at hl 0 rfl) ?_
  refine z_iconst hx hb dX6_reads_9 ?_
  refine va_put (v := .int (iZ 0)) (ty := .int) (C := RX6) (T := TX6) (N := 24) (ci := 6) hx hb hts hi_6 tyX6 tyX6_ok nmX6 hown hK hP hD hS 0 rfl rfl 19 (by decide) hw_3 (fun _ h9 => h9) rfl (by decide +kernel) rfl rfl (Nat.le_of_ble_eq_true rfl) dX6_reads_10 (fun H locs hP hD hS => ?_)
  have hP : va_P D vwCl (wMo cI cJ cB cZ h a1 a2 a3 a4 a5 a6 a7 thr eg fr wt rk nx nd es pp qq st ch bo tp le sz at_ fa fp 0 at_ nn ou om) H := hP
  have hD : va_D A (wMo cI cJ cB cZ h a1 a2 a3 a4 a5 a6 a7 thr eg fr wt rk nx nd es pp qq st ch bo tp le sz at_ fa fp 0 at_ nn ou om) := hD
  refine z_iconst hx hb dX6_reads_13 ?_
  refine lv_istore_n (lv' := [(1, .int (iZ 0)), (0, .ref h)]) hx hb dX6_reads_14 rfl hl (by decide) rfl (fun ls hl => ?_)
  refine lv_iload_n hx hb dX6_reads_15 rfl (lv_at hl 0 rfl) ?_
  refine z_iconst hx hb dX6_reads_16 ?_
  refine z_icmp_ge (tgt := 131) hx hb dX6_reads_17 (by decide) (by omega) (by omega) (fun c9 => absurd c9 (by decide)) (fun _ => ?_)
  refine lv_aload_n hx hb dX6_reads_20 rfl (lv_at hl 1 rfl) ?_
  refine va_get (v := .int (iZ at_)) (C := RX6) (T := TX6) (N := 24) (ci := 6) hx hb hts hi_6 hown hK hP 0 rfl rfl 16 (by decide) hw_1 (fun _ h9 => h9) rfl dX6_reads_21 ?_
  refine lv_aload_n hx hb dX6_reads_24 rfl (lv_at hl 1 rfl) ?_
  refine va_get (v := .int (iZ sz)) (C := RX6) (T := TX6) (N := 24) (ci := 6) hx hb hts hi_6 hown hK hP 0 rfl rfl 15 (by decide) hw_4 (fun _ h9 => h9) rfl dX6_reads_25 ?_
  refine z_icmp_ne (tgt := 41) hx hb dX6_reads_28 (by decide) (by omega) (by omega) (fun c_1 => ?_) (fun c_1 => ?_)
  · have t_2 := hT at_.toNat (by omega)
    have t_2b := sb_255 (show 0 ≤ tf at_.toNat ∧ tf at_.toNat < 256 by omega)
    refine lv_aload_n hx hb dX6_reads_41 rfl (lv_at hl 1 rfl) ?_
    refine va_get (v := .ref a6) (C := RX6) (T := TX6) (N := 24) (ci := 6) hx hb hts hi_6 hown hK hP 0 rfl rfl 13 (by decide) hw_5 (fun _ h9 => h9) rfl dX6_reads_42 ?_
    refine lv_aload_n hx hb dX6_reads_45 rfl (lv_at hl 1 rfl) ?_
    refine va_get (v := .int (iZ at_)) (C := RX6) (T := TX6) (N := 24) (ci := 6) hx hb hts hi_6 hown hK hP 0 rfl rfl 16 (by decide) hw_1 (fun _ h9 => h9) rfl dX6_reads_46 ?_
    refine z_bald hx hb hK hP 6 2 rfl rfl at_.toNat (by omega) (by omega) (by omega) dX6_reads_49 ?_
    refine z_sipush hx hb dX6_reads_50 (by decide) ?_
    refine z_iand ((tp at_.toNat) % 256) hx hb dX6_reads_53 (iZ_and255 _) ?_
    refine z_toi (tf at_.toNat) (by rw [(hT at_.toNat (by omega)).1]; exact sb_255 (by omega)) ?_
    refine lv_istore_n (lv' := [(2, .int (iZ (tf at_.toNat))), (1, .int (iZ 0)), (0, .ref h)]) hx hb dX6_reads_54 rfl hl (by decide) rfl (fun ls hl => ?_)
    refine lv_aload_n hx hb dX6_reads_55 rfl (lv_at hl 2 rfl) ?_
    refine lv_dup hx hb dX6_reads_56 rfl ?_
    refine va_get (v := .int (iZ at_)) (C := RX6) (T := TX6) (N := 24) (ci := 6) hx hb hts hi_6 hown hK hP 0 rfl rfl 16 (by decide) hw_1 (fun _ h9 => h9) rfl dX6_reads_57 ?_
    refine z_iconst hx hb dX6_reads_60 ?_
    refine z_iadd hx hb dX6_reads_61 ?_
    refine va_put (v := .int (iZ (at_ + 1))) (ty := .int) (C := RX6) (T := TX6) (N := 24) (ci := 6) hx hb hts hi_6 tyX6 tyX6_ok nmX6 hown hK hP hD hS 0 rfl rfl 16 (by decide) hw_1 (fun _ h9 => h9) rfl (by decide +kernel) rfl rfl (Nat.le_of_ble_eq_true rfl) dX6_reads_62 (fun H locs hP hD hS => ?_)
    have hP : va_P D vwCl (wMo cI cJ cB cZ h a1 a2 a3 a4 a5 a6 a7 thr eg fr wt rk nx nd es pp qq st ch bo tp le sz (at_ + 1) fa fp 0 at_ nn ou om) H := hP
    have hD : va_D A (wMo cI cJ cB cZ h a1 a2 a3 a4 a5 a6 a7 thr eg fr wt rk nx nd es pp qq st ch bo tp le sz (at_ + 1) fa fp 0 at_ nn ou om) := hD
    refine lv_aload_n hx hb dX6_reads_65 rfl (lv_at hl 2 rfl) ?_
    refine lv_dup hx hb dX6_reads_66 rfl ?_
    refine va_get (v := .int (iZ 0)) (C := RX6) (T := TX6) (N := 24) (ci := 6) hx hb hts hi_6 hown hK hP 0 rfl rfl 19 (by decide) hw_3 (fun _ h9 => h9) rfl dX6_reads_67 ?_
    refine lv_iload_n hx hb dX6_reads_70 rfl (lv_at hl 0 rfl) ?_
    refine z_bipush hx hb dX6_reads_71 (by decide) ?_
    refine z_iand ((tf at_.toNat) % 128) hx hb dX6_reads_73 (iZ_and127 _) ?_
    refine z_bipush hx hb dX6_reads_74 (by decide) ?_
    refine lv_iload_n hx hb dX6_reads_76 rfl (lv_at hl 1 rfl) ?_
    refine z_imul hx hb dX6_reads_77 ?_
    refine z_ishl ((tf at_.toNat) % 128) hx hb dX6_reads_78 (show iZ ((tf at_.toNat) % 128) <<< (iZ (7 * 0) &&& 31) = _ from iZ_shl0 (by omega)) ?_
    refine z_ior (0 + ((tf at_.toNat) % 128)) hx hb dX6_reads_79 (iZ_or0 _ (by omega)) ?_
    refine va_put (v := .int (iZ (0 + ((tf at_.toNat) % 128)))) (ty := .int) (C := RX6) (T := TX6) (N := 24) (ci := 6) hx hb hts hi_6 tyX6 tyX6_ok nmX6 hown hK hP hD hS 0 rfl rfl 19 (by decide) hw_3 (fun _ h9 => h9) rfl (by decide +kernel) rfl rfl (Nat.le_of_ble_eq_true rfl) dX6_reads_80 (fun H locs hP hD hS => ?_)
    have hP : va_P D vwCl (wMo cI cJ cB cZ h a1 a2 a3 a4 a5 a6 a7 thr eg fr wt rk nx nd es pp qq st ch bo tp le sz (at_ + 1) fa fp (0 + ((tf at_.toNat) % 128)) at_ nn ou om) H := hP
    have hD : va_D A (wMo cI cJ cB cZ h a1 a2 a3 a4 a5 a6 a7 thr eg fr wt rk nx nd es pp qq st ch bo tp le sz (at_ + 1) fa fp (0 + ((tf at_.toNat) % 128)) at_ nn ou om) := hD
    refine lv_iload_n hx hb dX6_reads_83 rfl (lv_at hl 0 rfl) ?_
    refine z_sipush hx hb dX6_reads_84 (by decide) ?_
    refine z_icmp_ge (tgt := 125) hx hb dX6_reads_87 (by decide) (by omega) (by omega) (fun c_3 => ?_) (fun c_3 => ?_)
    · refine lv_iinc (v := iZ (1)) (lv' := [(1, .int (iZ 1)), (2, .int (iZ (tf at_.toNat))), (0, .ref h)]) hx hb dX6_reads_125 hl (k := 1) rfl (show iZ 0 + iZ 1 = _ from iZ_add _ _) (by decide) rfl (fun ls hl => ?_)
      refine lv_goto (tgt := 15) hx hb dX6_reads_128 (by decide) ?_
      refine lv_iload_n hx hb dX6_reads_15 rfl (lv_at hl 0 rfl) ?_
      refine z_iconst hx hb dX6_reads_16 ?_
      refine z_icmp_ge (tgt := 131) hx hb dX6_reads_17 (by decide) (by omega) (by omega) (fun c9 => absurd c9 (by decide)) (fun _ => ?_)
      refine lv_aload_n hx hb dX6_reads_20 rfl (lv_at hl 2 rfl) ?_
      refine va_get (v := .int (iZ (at_ + 1))) (C := RX6) (T := TX6) (N := 24) (ci := 6) hx hb hts hi_6 hown hK hP 0 rfl rfl 16 (by decide) hw_1 (fun _ h9 => h9) rfl dX6_reads_21 ?_
      refine lv_aload_n hx hb dX6_reads_24 rfl (lv_at hl 2 rfl) ?_
      refine va_get (v := .int (iZ sz)) (C := RX6) (T := TX6) (N := 24) (ci := 6) hx hb hts hi_6 hown hK hP 0 rfl rfl 15 (by decide) hw_4 (fun _ h9 => h9) rfl dX6_reads_25 ?_
      refine z_icmp_ne (tgt := 41) hx hb dX6_reads_28 (by decide) (by omega) (by omega) (fun c_4 => ?_) (fun c_4 => ?_)
      · have t_5 := hT (at_.toNat + 1) (by omega)
        have t_5b := sb_255 (show 0 ≤ tf (at_.toNat + 1) ∧ tf (at_.toNat + 1) < 256 by omega)
        refine lv_aload_n hx hb dX6_reads_41 rfl (lv_at hl 2 rfl) ?_
        refine va_get (v := .ref a6) (C := RX6) (T := TX6) (N := 24) (ci := 6) hx hb hts hi_6 hown hK hP 0 rfl rfl 13 (by decide) hw_5 (fun _ h9 => h9) rfl dX6_reads_42 ?_
        refine lv_aload_n hx hb dX6_reads_45 rfl (lv_at hl 2 rfl) ?_
        refine va_get (v := .int (iZ (at_ + 1))) (C := RX6) (T := TX6) (N := 24) (ci := 6) hx hb hts hi_6 hown hK hP 0 rfl rfl 16 (by decide) hw_1 (fun _ h9 => h9) rfl dX6_reads_46 ?_
        refine z_bald hx hb hK hP 6 2 rfl rfl (at_.toNat + 1) (by omega) (by omega) (by omega) dX6_reads_49 ?_
        refine z_sipush hx hb dX6_reads_50 (by decide) ?_
        refine z_iand ((tp (at_.toNat + 1)) % 256) hx hb dX6_reads_53 (iZ_and255 _) ?_
        refine z_toi (tf (at_.toNat + 1)) (by rw [(hT (at_.toNat + 1) (by omega)).1]; exact sb_255 (by omega)) ?_
        refine lv_istore_n (lv' := [(2, .int (iZ (tf (at_.toNat + 1)))), (1, .int (iZ 1)), (0, .ref h)]) hx hb dX6_reads_54 rfl hl (by decide) rfl (fun ls hl => ?_)
        refine lv_aload_n hx hb dX6_reads_55 rfl (lv_at hl 2 rfl) ?_
        refine lv_dup hx hb dX6_reads_56 rfl ?_
        refine va_get (v := .int (iZ (at_ + 1))) (C := RX6) (T := TX6) (N := 24) (ci := 6) hx hb hts hi_6 hown hK hP 0 rfl rfl 16 (by decide) hw_1 (fun _ h9 => h9) rfl dX6_reads_57 ?_
        refine z_iconst hx hb dX6_reads_60 ?_
        refine z_iadd hx hb dX6_reads_61 ?_
        refine va_put (v := .int (iZ ((at_ + 1) + 1))) (ty := .int) (C := RX6) (T := TX6) (N := 24) (ci := 6) hx hb hts hi_6 tyX6 tyX6_ok nmX6 hown hK hP hD hS 0 rfl rfl 16 (by decide) hw_1 (fun _ h9 => h9) rfl (by decide +kernel) rfl rfl (Nat.le_of_ble_eq_true rfl) dX6_reads_62 (fun H locs hP hD hS => ?_)
        have hP : va_P D vwCl (wMo cI cJ cB cZ h a1 a2 a3 a4 a5 a6 a7 thr eg fr wt rk nx nd es pp qq st ch bo tp le sz ((at_ + 1) + 1) fa fp (0 + ((tf at_.toNat) % 128)) at_ nn ou om) H := hP
        have hD : va_D A (wMo cI cJ cB cZ h a1 a2 a3 a4 a5 a6 a7 thr eg fr wt rk nx nd es pp qq st ch bo tp le sz ((at_ + 1) + 1) fa fp (0 + ((tf at_.toNat) % 128)) at_ nn ou om) := hD
        refine lv_aload_n hx hb dX6_reads_65 rfl (lv_at hl 2 rfl) ?_
        refine lv_dup hx hb dX6_reads_66 rfl ?_
        refine va_get (v := .int (iZ (0 + ((tf at_.toNat) % 128)))) (C := RX6) (T := TX6) (N := 24) (ci := 6) hx hb hts hi_6 hown hK hP 0 rfl rfl 19 (by decide) hw_3 (fun _ h9 => h9) rfl dX6_reads_67 ?_
        refine lv_iload_n hx hb dX6_reads_70 rfl (lv_at hl 0 rfl) ?_
        refine z_bipush hx hb dX6_reads_71 (by decide) ?_
        refine z_iand ((tf (at_.toNat + 1)) % 128) hx hb dX6_reads_73 (iZ_and127 _) ?_
        refine z_bipush hx hb dX6_reads_74 (by decide) ?_
        refine lv_iload_n hx hb dX6_reads_76 rfl (lv_at hl 1 rfl) ?_
        refine z_imul hx hb dX6_reads_77 ?_
        refine z_ishl (((tf (at_.toNat + 1)) % 128) * 128) hx hb dX6_reads_78 (show iZ ((tf (at_.toNat + 1)) % 128) <<< (iZ (7 * 1) &&& 31) = _ from iZ_shl7 (by omega)) ?_
        refine z_ior ((0 + ((tf at_.toNat) % 128)) + (((tf (at_.toNat + 1)) % 128) * 128)) hx hb dX6_reads_79 (iZ_or7 (by omega) (by omega)) ?_
        refine va_put (v := .int (iZ ((0 + ((tf at_.toNat) % 128)) + (((tf (at_.toNat + 1)) % 128) * 128)))) (ty := .int) (C := RX6) (T := TX6) (N := 24) (ci := 6) hx hb hts hi_6 tyX6 tyX6_ok nmX6 hown hK hP hD hS 0 rfl rfl 19 (by decide) hw_3 (fun _ h9 => h9) rfl (by decide +kernel) rfl rfl (Nat.le_of_ble_eq_true rfl) dX6_reads_80 (fun H locs hP hD hS => ?_)
        have hP : va_P D vwCl (wMo cI cJ cB cZ h a1 a2 a3 a4 a5 a6 a7 thr eg fr wt rk nx nd es pp qq st ch bo tp le sz ((at_ + 1) + 1) fa fp ((0 + ((tf at_.toNat) % 128)) + (((tf (at_.toNat + 1)) % 128) * 128)) at_ nn ou om) H := hP
        have hD : va_D A (wMo cI cJ cB cZ h a1 a2 a3 a4 a5 a6 a7 thr eg fr wt rk nx nd es pp qq st ch bo tp le sz ((at_ + 1) + 1) fa fp ((0 + ((tf at_.toNat) % 128)) + (((tf (at_.toNat + 1)) % 128) * 128)) at_ nn ou om) := hD
        refine lv_iload_n hx hb dX6_reads_83 rfl (lv_at hl 0 rfl) ?_
        refine z_sipush hx hb dX6_reads_84 (by decide) ?_
        refine z_icmp_ge (tgt := 125) hx hb dX6_reads_87 (by decide) (by omega) (by omega) (fun c_6 => ?_) (fun c_6 => ?_)
        · refine lv_iinc (v := iZ (2)) (lv' := [(1, .int (iZ 2)), (2, .int (iZ (tf (at_.toNat + 1)))), (0, .ref h)]) hx hb dX6_reads_125 hl (k := 1) rfl (show iZ 1 + iZ 1 = _ from iZ_add _ _) (by decide) rfl (fun ls hl => ?_)
          refine lv_goto (tgt := 15) hx hb dX6_reads_128 (by decide) ?_
          refine lv_iload_n hx hb dX6_reads_15 rfl (lv_at hl 0 rfl) ?_
          refine z_iconst hx hb dX6_reads_16 ?_
          refine z_icmp_ge (tgt := 131) hx hb dX6_reads_17 (by decide) (by omega) (by omega) (fun c9 => absurd c9 (by decide)) (fun _ => ?_)
          refine lv_aload_n hx hb dX6_reads_20 rfl (lv_at hl 2 rfl) ?_
          refine va_get (v := .int (iZ ((at_ + 1) + 1))) (C := RX6) (T := TX6) (N := 24) (ci := 6) hx hb hts hi_6 hown hK hP 0 rfl rfl 16 (by decide) hw_1 (fun _ h9 => h9) rfl dX6_reads_21 ?_
          refine lv_aload_n hx hb dX6_reads_24 rfl (lv_at hl 2 rfl) ?_
          refine va_get (v := .int (iZ sz)) (C := RX6) (T := TX6) (N := 24) (ci := 6) hx hb hts hi_6 hown hK hP 0 rfl rfl 15 (by decide) hw_4 (fun _ h9 => h9) rfl dX6_reads_25 ?_
          refine z_icmp_ne (tgt := 41) hx hb dX6_reads_28 (by decide) (by omega) (by omega) (fun c_7 => ?_) (fun c_7 => ?_)
          · have t_8 := hT (at_.toNat + 2) (by omega)
            have t_8b := sb_255 (show 0 ≤ tf (at_.toNat + 2) ∧ tf (at_.toNat + 2) < 256 by omega)
            refine lv_aload_n hx hb dX6_reads_41 rfl (lv_at hl 2 rfl) ?_
            refine va_get (v := .ref a6) (C := RX6) (T := TX6) (N := 24) (ci := 6) hx hb hts hi_6 hown hK hP 0 rfl rfl 13 (by decide) hw_5 (fun _ h9 => h9) rfl dX6_reads_42 ?_
            refine lv_aload_n hx hb dX6_reads_45 rfl (lv_at hl 2 rfl) ?_
            refine va_get (v := .int (iZ ((at_ + 1) + 1))) (C := RX6) (T := TX6) (N := 24) (ci := 6) hx hb hts hi_6 hown hK hP 0 rfl rfl 16 (by decide) hw_1 (fun _ h9 => h9) rfl dX6_reads_46 ?_
            refine z_bald hx hb hK hP 6 2 rfl rfl (at_.toNat + 2) (by omega) (by omega) (by omega) dX6_reads_49 ?_
            refine z_sipush hx hb dX6_reads_50 (by decide) ?_
            refine z_iand ((tp (at_.toNat + 2)) % 256) hx hb dX6_reads_53 (iZ_and255 _) ?_
            refine z_toi (tf (at_.toNat + 2)) (by rw [(hT (at_.toNat + 2) (by omega)).1]; exact sb_255 (by omega)) ?_
            refine lv_istore_n (lv' := [(2, .int (iZ (tf (at_.toNat + 2)))), (1, .int (iZ 2)), (0, .ref h)]) hx hb dX6_reads_54 rfl hl (by decide) rfl (fun ls hl => ?_)
            refine lv_aload_n hx hb dX6_reads_55 rfl (lv_at hl 2 rfl) ?_
            refine lv_dup hx hb dX6_reads_56 rfl ?_
            refine va_get (v := .int (iZ ((at_ + 1) + 1))) (C := RX6) (T := TX6) (N := 24) (ci := 6) hx hb hts hi_6 hown hK hP 0 rfl rfl 16 (by decide) hw_1 (fun _ h9 => h9) rfl dX6_reads_57 ?_
            refine z_iconst hx hb dX6_reads_60 ?_
            refine z_iadd hx hb dX6_reads_61 ?_
            refine va_put (v := .int (iZ (((at_ + 1) + 1) + 1))) (ty := .int) (C := RX6) (T := TX6) (N := 24) (ci := 6) hx hb hts hi_6 tyX6 tyX6_ok nmX6 hown hK hP hD hS 0 rfl rfl 16 (by decide) hw_1 (fun _ h9 => h9) rfl (by decide +kernel) rfl rfl (Nat.le_of_ble_eq_true rfl) dX6_reads_62 (fun H locs hP hD hS => ?_)
            have hP : va_P D vwCl (wMo cI cJ cB cZ h a1 a2 a3 a4 a5 a6 a7 thr eg fr wt rk nx nd es pp qq st ch bo tp le sz (((at_ + 1) + 1) + 1) fa fp ((0 + ((tf at_.toNat) % 128)) + (((tf (at_.toNat + 1)) % 128) * 128)) at_ nn ou om) H := hP
            have hD : va_D A (wMo cI cJ cB cZ h a1 a2 a3 a4 a5 a6 a7 thr eg fr wt rk nx nd es pp qq st ch bo tp le sz (((at_ + 1) + 1) + 1) fa fp ((0 + ((tf at_.toNat) % 128)) + (((tf (at_.toNat + 1)) % 128) * 128)) at_ nn ou om) := hD
            refine lv_aload_n hx hb dX6_reads_65 rfl (lv_at hl 2 rfl) ?_
            refine lv_dup hx hb dX6_reads_66 rfl ?_
            refine va_get (v := .int (iZ ((0 + ((tf at_.toNat) % 128)) + (((tf (at_.toNat + 1)) % 128) * 128)))) (C := RX6) (T := TX6) (N := 24) (ci := 6) hx hb hts hi_6 hown hK hP 0 rfl rfl 19 (by decide) hw_3 (fun _ h9 => h9) rfl dX6_reads_67 ?_
            refine lv_iload_n hx hb dX6_reads_70 rfl (lv_at hl 0 rfl) ?_
            refine z_bipush hx hb dX6_reads_71 (by decide) ?_
            refine z_iand ((tf (at_.toNat + 2)) % 128) hx hb dX6_reads_73 (iZ_and127 _) ?_
            refine z_bipush hx hb dX6_reads_74 (by decide) ?_
            refine lv_iload_n hx hb dX6_reads_76 rfl (lv_at hl 1 rfl) ?_
            refine z_imul hx hb dX6_reads_77 ?_
            refine z_ishl (((tf (at_.toNat + 2)) % 128) * 16384) hx hb dX6_reads_78 (show iZ ((tf (at_.toNat + 2)) % 128) <<< (iZ (7 * 2) &&& 31) = _ from iZ_shl14 (by omega)) ?_
            refine z_ior (((0 + ((tf at_.toNat) % 128)) + (((tf (at_.toNat + 1)) % 128) * 128)) + (((tf (at_.toNat + 2)) % 128) * 16384)) hx hb dX6_reads_79 (iZ_or14 (by omega) (by omega)) ?_
            refine va_put (v := .int (iZ (((0 + ((tf at_.toNat) % 128)) + (((tf (at_.toNat + 1)) % 128) * 128)) + (((tf (at_.toNat + 2)) % 128) * 16384)))) (ty := .int) (C := RX6) (T := TX6) (N := 24) (ci := 6) hx hb hts hi_6 tyX6 tyX6_ok nmX6 hown hK hP hD hS 0 rfl rfl 19 (by decide) hw_3 (fun _ h9 => h9) rfl (by decide +kernel) rfl rfl (Nat.le_of_ble_eq_true rfl) dX6_reads_80 (fun H locs hP hD hS => ?_)
            have hP : va_P D vwCl (wMo cI cJ cB cZ h a1 a2 a3 a4 a5 a6 a7 thr eg fr wt rk nx nd es pp qq st ch bo tp le sz (((at_ + 1) + 1) + 1) fa fp (((0 + ((tf at_.toNat) % 128)) + (((tf (at_.toNat + 1)) % 128) * 128)) + (((tf (at_.toNat + 2)) % 128) * 16384)) at_ nn ou om) H := hP
            have hD : va_D A (wMo cI cJ cB cZ h a1 a2 a3 a4 a5 a6 a7 thr eg fr wt rk nx nd es pp qq st ch bo tp le sz (((at_ + 1) + 1) + 1) fa fp (((0 + ((tf at_.toNat) % 128)) + (((tf (at_.toNat + 1)) % 128) * 128)) + (((tf (at_.toNat + 2)) % 128) * 16384)) at_ nn ou om) := hD
            refine lv_iload_n hx hb dX6_reads_83 rfl (lv_at hl 0 rfl) ?_
            refine z_sipush hx hb dX6_reads_84 (by decide) ?_
            refine z_icmp_ge (tgt := 125) hx hb dX6_reads_87 (by decide) (by omega) (by omega) (fun c_9 => ?_) (fun c_9 => ?_)
            · refine lv_iinc (v := iZ (3)) (lv' := [(1, .int (iZ 3)), (2, .int (iZ (tf (at_.toNat + 2)))), (0, .ref h)]) hx hb dX6_reads_125 hl (k := 1) rfl (show iZ 2 + iZ 1 = _ from iZ_add _ _) (by decide) rfl (fun ls hl => ?_)
              refine lv_goto (tgt := 15) hx hb dX6_reads_128 (by decide) ?_
              refine lv_iload_n hx hb dX6_reads_15 rfl (lv_at hl 0 rfl) ?_
              refine z_iconst hx hb dX6_reads_16 ?_
              refine z_icmp_ge (tgt := 131) hx hb dX6_reads_17 (by decide) (by omega) (by omega) (fun _ => ?_) (fun c9 => absurd c9 (by decide))
              refine lv_aload_n hx hb dX6_reads_131 rfl (lv_at hl 2 rfl) ?_
              refine z_iconst hx hb dX6_reads_132 ?_
              refine lv_aload_n hx hb dX6_reads_133 rfl (lv_at hl 2 rfl) ?_
              refine va_get (v := .int (iZ at_)) (C := RX6) (T := TX6) (N := 24) (ci := 6) hx hb hts hi_6 hown hK hP 0 rfl rfl 20 (by decide) hw_2 (fun _ h9 => h9) rfl dX6_reads_134 ?_
              refine rw_i (wr := []) (va_runV (As := [.int (iZ 2), .int (iZ at_)]) (rest := []) ⟨hx, hb, hml, hown, hts⟩ (c_X6_wrong l D cI cJ cB cZ h a1 a2 a3 a4 a5 a6 a7 thr eg fr wt rk nx nd es pp qq st ch bo tp le sz (((at_ + 1) + 1) + 1) fa fp (((0 + ((tf at_.toNat) % 128)) + (((tf (at_.toNat + 1)) % 128) * 128)) + (((tf (at_.toNat + 2)) % 128) * 16384)) at_ nn ou om 2 at_ _) (cwV 2 hts gX6_reads_X6_wrong rfl rfl rfl (by decide +kernel) ⟨Nat.le_of_ble_eq_true rfl, Nat.le_of_ble_eq_true rfl⟩) (pre1V hE hP hD 0 rfl rfl) rfl rfl hl.1 rfl (lv_room (Nat.le_of_ble_eq_true rfl)) dX6_reads_137 ⟨Nat.le_of_ble_eq_true rfl, Nat.le_of_ble_eq_true rfl⟩) hP hD hS hA [0, 1, 2, 3, 4, 5, 6, 7] [] rfl rfl (by decide) (by decide) (fun r_10 u_12 H locs hr_11 hP hD hS => ?_)
              obtain ⟨rfl, rfl⟩ := hr_11
              have hP := hP.sub (ws' := (wMo cI cJ cB cZ h a1 a2 a3 a4 a5 a6 a7 thr eg fr wt rk nx nd es pp qq st ch bo tp le sz (((at_ + 1) + 1) + 1) 2 at_ (((0 + ((tf at_.toNat) % 128)) + (((tf (at_.toNat + 1)) % 128) * 128)) + (((tf (at_.toNat + 2)) % 128) * 16384)) at_ nn ou om)) [0, 1, 2, 3, 4, 5, 6, 7] rfl
              have hD := hD.sub (ws' := (wMo cI cJ cB cZ h a1 a2 a3 a4 a5 a6 a7 thr eg fr wt rk nx nd es pp qq st ch bo tp le sz (((at_ + 1) + 1) + 1) 2 at_ (((0 + ((tf at_.toNat) % 128)) + (((tf (at_.toNat + 1)) % 128) * 128)) + (((tf (at_.toNat + 2)) % 128) * 16384)) at_ nn ou om)) [0, 1, 2, 3, 4, 5, 6, 7] (by decide) rfl
              exact rw_zret (z := 0) (((at_ + 1) + 1) + 1, 2, at_, ((0 + ((tf at_.toNat) % 128)) + (((tf (at_.toNat + 1)) % 128) * 128)) + (((tf (at_.toNat + 2)) % 128) * 16384), at_) hx hb hr hlocks (Or.inl rfl) hP hD hS (by first | (rw [uns_e0 (by omega)]; dsimp only [mR]; omega) | (rw [uns_v0 (by omega) (by omega)]; dsimp only [mR]; omega) | (rw [uns_e1 (by omega) (by omega) (by omega)]; dsimp only [mR]; omega) | (rw [uns_z1 (by omega) (by omega) (by omega) (by omega) (by omega)]; dsimp only [mR]; omega) | (rw [uns_v1 (by omega) (by omega) (by omega) (by omega) (by omega)]; dsimp only [mR]; omega) | (rw [uns_e2 (by omega) (by omega) (by omega) (by omega) (by omega)]; dsimp only [mR]; omega) | (rw [uns_z2 (by omega) (by omega) (by omega) (by omega) (by omega) (by omega) (by omega)]; dsimp only [mR]; omega) | (rw [uns_v2 (by omega) (by omega) (by omega) (by omega) (by omega) (by omega) (by omega)]; dsimp only [mR]; omega) | (rw [uns_b (by omega) (by omega) (by omega) (by omega) (by omega) (by omega)]; dsimp only [mR]; omega)) dX6_reads_140
            · refine lv_iload_n hx hb dX6_reads_90 rfl (lv_at hl 0 rfl) ?_
              refine z_if_gt (tgt := 98) hx hb dX6_reads_91 (by decide) (by omega) (fun c_13 => ?_) (fun c_13 => ?_)
              · refine lv_aload_n hx hb dX6_reads_98 rfl (lv_at hl 2 rfl) ?_
                refine va_get (v := .int (iZ (((0 + ((tf at_.toNat) % 128)) + (((tf (at_.toNat + 1)) % 128) * 128)) + (((tf (at_.toNat + 2)) % 128) * 16384)))) (C := RX6) (T := TX6) (N := 24) (ci := 6) hx hb hts hi_6 hown hK hP 0 rfl rfl 19 (by decide) hw_3 (fun _ h9 => h9) rfl dX6_reads_99 ?_
                refine z_ldc hx hb (65536) hown hw_6 (by decide) dX6_reads_102 ?_
                refine z_icmp_lt (tgt := 119) hx hb dX6_reads_104 (by decide) (by omega) (by omega) (fun c_14 => ?_) (fun c_14 => ?_)
                · refine z_iconst hx hb dX6_reads_119 ?_
                  refine lv_goto (tgt := 124) hx hb dX6_reads_120 (by decide) ?_
                  exact rw_zret (z := 1) (((at_ + 1) + 1) + 1, fa, fp, ((0 + ((tf at_.toNat) % 128)) + (((tf (at_.toNat + 1)) % 128) * 128)) + (((tf (at_.toNat + 2)) % 128) * 16384), at_) hx hb hr hlocks (Or.inr rfl) hP hD hS (by first | (rw [uns_e0 (by omega)]; dsimp only [mR]; omega) | (rw [uns_v0 (by omega) (by omega)]; dsimp only [mR]; omega) | (rw [uns_e1 (by omega) (by omega) (by omega)]; dsimp only [mR]; omega) | (rw [uns_z1 (by omega) (by omega) (by omega) (by omega) (by omega)]; dsimp only [mR]; omega) | (rw [uns_v1 (by omega) (by omega) (by omega) (by omega) (by omega)]; dsimp only [mR]; omega) | (rw [uns_e2 (by omega) (by omega) (by omega) (by omega) (by omega)]; dsimp only [mR]; omega) | (rw [uns_z2 (by omega) (by omega) (by omega) (by omega) (by omega) (by omega) (by omega)]; dsimp only [mR]; omega) | (rw [uns_v2 (by omega) (by omega) (by omega) (by omega) (by omega) (by omega) (by omega)]; dsimp only [mR]; omega) | (rw [uns_b (by omega) (by omega) (by omega) (by omega) (by omega) (by omega)]; dsimp only [mR]; omega)) dX6_reads_124
                · refine lv_aload_n hx hb dX6_reads_107 rfl (lv_at hl 2 rfl) ?_
                  refine z_iconst hx hb dX6_reads_108 ?_
                  refine lv_aload_n hx hb dX6_reads_109 rfl (lv_at hl 2 rfl) ?_
                  refine va_get (v := .int (iZ at_)) (C := RX6) (T := TX6) (N := 24) (ci := 6) hx hb hts hi_6 hown hK hP 0 rfl rfl 20 (by decide) hw_2 (fun _ h9 => h9) rfl dX6_reads_110 ?_
                  refine rw_i (wr := []) (va_runV (As := [.int (iZ 2), .int (iZ at_)]) (rest := []) ⟨hx, hb, hml, hown, hts⟩ (c_X6_wrong l D cI cJ cB cZ h a1 a2 a3 a4 a5 a6 a7 thr eg fr wt rk nx nd es pp qq st ch bo tp le sz (((at_ + 1) + 1) + 1) fa fp (((0 + ((tf at_.toNat) % 128)) + (((tf (at_.toNat + 1)) % 128) * 128)) + (((tf (at_.toNat + 2)) % 128) * 16384)) at_ nn ou om 2 at_ _) (cwV 2 hts gX6_reads_X6_wrong rfl rfl rfl (by decide +kernel) ⟨Nat.le_of_ble_eq_true rfl, Nat.le_of_ble_eq_true rfl⟩) (pre1V hE hP hD 0 rfl rfl) rfl rfl hl.1 rfl (lv_room (Nat.le_of_ble_eq_true rfl)) dX6_reads_113 ⟨Nat.le_of_ble_eq_true rfl, Nat.le_of_ble_eq_true rfl⟩) hP hD hS hA [0, 1, 2, 3, 4, 5, 6, 7] [] rfl rfl (by decide) (by decide) (fun r_15 u_17 H locs hr_16 hP hD hS => ?_)
                  obtain ⟨rfl, rfl⟩ := hr_16
                  have hP := hP.sub (ws' := (wMo cI cJ cB cZ h a1 a2 a3 a4 a5 a6 a7 thr eg fr wt rk nx nd es pp qq st ch bo tp le sz (((at_ + 1) + 1) + 1) 2 at_ (((0 + ((tf at_.toNat) % 128)) + (((tf (at_.toNat + 1)) % 128) * 128)) + (((tf (at_.toNat + 2)) % 128) * 16384)) at_ nn ou om)) [0, 1, 2, 3, 4, 5, 6, 7] rfl
                  have hD := hD.sub (ws' := (wMo cI cJ cB cZ h a1 a2 a3 a4 a5 a6 a7 thr eg fr wt rk nx nd es pp qq st ch bo tp le sz (((at_ + 1) + 1) + 1) 2 at_ (((0 + ((tf at_.toNat) % 128)) + (((tf (at_.toNat + 1)) % 128) * 128)) + (((tf (at_.toNat + 2)) % 128) * 16384)) at_ nn ou om)) [0, 1, 2, 3, 4, 5, 6, 7] (by decide) rfl
                  refine z_if_eq (tgt := 123) hx hb dX6_reads_116 (by decide) (by omega) (fun _ => ?_) (fun c9 => absurd c9 (by decide))
                  refine z_iconst hx hb dX6_reads_123 ?_
                  exact rw_zret (z := 0) (((at_ + 1) + 1) + 1, 2, at_, ((0 + ((tf at_.toNat) % 128)) + (((tf (at_.toNat + 1)) % 128) * 128)) + (((tf (at_.toNat + 2)) % 128) * 16384), at_) hx hb hr hlocks (Or.inl rfl) hP hD hS (by first | (rw [uns_e0 (by omega)]; dsimp only [mR]; omega) | (rw [uns_v0 (by omega) (by omega)]; dsimp only [mR]; omega) | (rw [uns_e1 (by omega) (by omega) (by omega)]; dsimp only [mR]; omega) | (rw [uns_z1 (by omega) (by omega) (by omega) (by omega) (by omega)]; dsimp only [mR]; omega) | (rw [uns_v1 (by omega) (by omega) (by omega) (by omega) (by omega)]; dsimp only [mR]; omega) | (rw [uns_e2 (by omega) (by omega) (by omega) (by omega) (by omega)]; dsimp only [mR]; omega) | (rw [uns_z2 (by omega) (by omega) (by omega) (by omega) (by omega) (by omega) (by omega)]; dsimp only [mR]; omega) | (rw [uns_v2 (by omega) (by omega) (by omega) (by omega) (by omega) (by omega) (by omega)]; dsimp only [mR]; omega) | (rw [uns_b (by omega) (by omega) (by omega) (by omega) (by omega) (by omega)]; dsimp only [mR]; omega)) dX6_reads_124
              · refine lv_iload_n hx hb dX6_reads_94 rfl (lv_at hl 1 rfl) ?_
                refine z_if_ne (tgt := 107) hx hb dX6_reads_95 (by decide) (by omega) (fun _ => ?_) (fun c9 => absurd c9 (by decide))
                refine lv_aload_n hx hb dX6_reads_107 rfl (lv_at hl 2 rfl) ?_
                refine z_iconst hx hb dX6_reads_108 ?_
                refine lv_aload_n hx hb dX6_reads_109 rfl (lv_at hl 2 rfl) ?_
                refine va_get (v := .int (iZ at_)) (C := RX6) (T := TX6) (N := 24) (ci := 6) hx hb hts hi_6 hown hK hP 0 rfl rfl 20 (by decide) hw_2 (fun _ h9 => h9) rfl dX6_reads_110 ?_
                refine rw_i (wr := []) (va_runV (As := [.int (iZ 2), .int (iZ at_)]) (rest := []) ⟨hx, hb, hml, hown, hts⟩ (c_X6_wrong l D cI cJ cB cZ h a1 a2 a3 a4 a5 a6 a7 thr eg fr wt rk nx nd es pp qq st ch bo tp le sz (((at_ + 1) + 1) + 1) fa fp (((0 + ((tf at_.toNat) % 128)) + (((tf (at_.toNat + 1)) % 128) * 128)) + (((tf (at_.toNat + 2)) % 128) * 16384)) at_ nn ou om 2 at_ _) (cwV 2 hts gX6_reads_X6_wrong rfl rfl rfl (by decide +kernel) ⟨Nat.le_of_ble_eq_true rfl, Nat.le_of_ble_eq_true rfl⟩) (pre1V hE hP hD 0 rfl rfl) rfl rfl hl.1 rfl (lv_room (Nat.le_of_ble_eq_true rfl)) dX6_reads_113 ⟨Nat.le_of_ble_eq_true rfl, Nat.le_of_ble_eq_true rfl⟩) hP hD hS hA [0, 1, 2, 3, 4, 5, 6, 7] [] rfl rfl (by decide) (by decide) (fun r_18 u_20 H locs hr_19 hP hD hS => ?_)
                obtain ⟨rfl, rfl⟩ := hr_19
                have hP := hP.sub (ws' := (wMo cI cJ cB cZ h a1 a2 a3 a4 a5 a6 a7 thr eg fr wt rk nx nd es pp qq st ch bo tp le sz (((at_ + 1) + 1) + 1) 2 at_ (((0 + ((tf at_.toNat) % 128)) + (((tf (at_.toNat + 1)) % 128) * 128)) + (((tf (at_.toNat + 2)) % 128) * 16384)) at_ nn ou om)) [0, 1, 2, 3, 4, 5, 6, 7] rfl
                have hD := hD.sub (ws' := (wMo cI cJ cB cZ h a1 a2 a3 a4 a5 a6 a7 thr eg fr wt rk nx nd es pp qq st ch bo tp le sz (((at_ + 1) + 1) + 1) 2 at_ (((0 + ((tf at_.toNat) % 128)) + (((tf (at_.toNat + 1)) % 128) * 128)) + (((tf (at_.toNat + 2)) % 128) * 16384)) at_ nn ou om)) [0, 1, 2, 3, 4, 5, 6, 7] (by decide) rfl
                refine z_if_eq (tgt := 123) hx hb dX6_reads_116 (by decide) (by omega) (fun _ => ?_) (fun c9 => absurd c9 (by decide))
                refine z_iconst hx hb dX6_reads_123 ?_
                exact rw_zret (z := 0) (((at_ + 1) + 1) + 1, 2, at_, ((0 + ((tf at_.toNat) % 128)) + (((tf (at_.toNat + 1)) % 128) * 128)) + (((tf (at_.toNat + 2)) % 128) * 16384), at_) hx hb hr hlocks (Or.inl rfl) hP hD hS (by first | (rw [uns_e0 (by omega)]; dsimp only [mR]; omega) | (rw [uns_v0 (by omega) (by omega)]; dsimp only [mR]; omega) | (rw [uns_e1 (by omega) (by omega) (by omega)]; dsimp only [mR]; omega) | (rw [uns_z1 (by omega) (by omega) (by omega) (by omega) (by omega)]; dsimp only [mR]; omega) | (rw [uns_v1 (by omega) (by omega) (by omega) (by omega) (by omega)]; dsimp only [mR]; omega) | (rw [uns_e2 (by omega) (by omega) (by omega) (by omega) (by omega)]; dsimp only [mR]; omega) | (rw [uns_z2 (by omega) (by omega) (by omega) (by omega) (by omega) (by omega) (by omega)]; dsimp only [mR]; omega) | (rw [uns_v2 (by omega) (by omega) (by omega) (by omega) (by omega) (by omega) (by omega)]; dsimp only [mR]; omega) | (rw [uns_b (by omega) (by omega) (by omega) (by omega) (by omega) (by omega)]; dsimp only [mR]; omega)) dX6_reads_124
          · refine lv_aload_n hx hb dX6_reads_31 rfl (lv_at hl 2 rfl) ?_
            refine z_iconst hx hb dX6_reads_32 ?_
            refine lv_aload_n hx hb dX6_reads_33 rfl (lv_at hl 2 rfl) ?_
            refine va_get (v := .int (iZ sz)) (C := RX6) (T := TX6) (N := 24) (ci := 6) hx hb hts hi_6 hown hK hP 0 rfl rfl 15 (by decide) hw_4 (fun _ h9 => h9) rfl dX6_reads_34 ?_
            refine rw_i (wr := []) (va_runV (As := [.int (iZ 1), .int (iZ sz)]) (rest := []) ⟨hx, hb, hml, hown, hts⟩ (c_X6_wrong l D cI cJ cB cZ h a1 a2 a3 a4 a5 a6 a7 thr eg fr wt rk nx nd es pp qq st ch bo tp le sz ((at_ + 1) + 1) fa fp ((0 + ((tf at_.toNat) % 128)) + (((tf (at_.toNat + 1)) % 128) * 128)) at_ nn ou om 1 sz _) (cwV 2 hts gX6_reads_X6_wrong rfl rfl rfl (by decide +kernel) ⟨Nat.le_of_ble_eq_true rfl, Nat.le_of_ble_eq_true rfl⟩) (pre1V hE hP hD 0 rfl rfl) rfl rfl hl.1 rfl (lv_room (Nat.le_of_ble_eq_true rfl)) dX6_reads_37 ⟨Nat.le_of_ble_eq_true rfl, Nat.le_of_ble_eq_true rfl⟩) hP hD hS hA [0, 1, 2, 3, 4, 5, 6, 7] [] rfl rfl (by decide) (by decide) (fun r_21 u_23 H locs hr_22 hP hD hS => ?_)
            obtain ⟨rfl, rfl⟩ := hr_22
            have hP := hP.sub (ws' := (wMo cI cJ cB cZ h a1 a2 a3 a4 a5 a6 a7 thr eg fr wt rk nx nd es pp qq st ch bo tp le sz ((at_ + 1) + 1) 1 sz ((0 + ((tf at_.toNat) % 128)) + (((tf (at_.toNat + 1)) % 128) * 128)) at_ nn ou om)) [0, 1, 2, 3, 4, 5, 6, 7] rfl
            have hD := hD.sub (ws' := (wMo cI cJ cB cZ h a1 a2 a3 a4 a5 a6 a7 thr eg fr wt rk nx nd es pp qq st ch bo tp le sz ((at_ + 1) + 1) 1 sz ((0 + ((tf at_.toNat) % 128)) + (((tf (at_.toNat + 1)) % 128) * 128)) at_ nn ou om)) [0, 1, 2, 3, 4, 5, 6, 7] (by decide) rfl
            exact rw_zret (z := 0) ((at_ + 1) + 1, 1, sz, (0 + ((tf at_.toNat) % 128)) + (((tf (at_.toNat + 1)) % 128) * 128), at_) hx hb hr hlocks (Or.inl rfl) hP hD hS (by first | (rw [uns_e0 (by omega)]; dsimp only [mR]; omega) | (rw [uns_v0 (by omega) (by omega)]; dsimp only [mR]; omega) | (rw [uns_e1 (by omega) (by omega) (by omega)]; dsimp only [mR]; omega) | (rw [uns_z1 (by omega) (by omega) (by omega) (by omega) (by omega)]; dsimp only [mR]; omega) | (rw [uns_v1 (by omega) (by omega) (by omega) (by omega) (by omega)]; dsimp only [mR]; omega) | (rw [uns_e2 (by omega) (by omega) (by omega) (by omega) (by omega)]; dsimp only [mR]; omega) | (rw [uns_z2 (by omega) (by omega) (by omega) (by omega) (by omega) (by omega) (by omega)]; dsimp only [mR]; omega) | (rw [uns_v2 (by omega) (by omega) (by omega) (by omega) (by omega) (by omega) (by omega)]; dsimp only [mR]; omega) | (rw [uns_b (by omega) (by omega) (by omega) (by omega) (by omega) (by omega)]; dsimp only [mR]; omega)) dX6_reads_40
        · refine lv_iload_n hx hb dX6_reads_90 rfl (lv_at hl 0 rfl) ?_
          refine z_if_gt (tgt := 98) hx hb dX6_reads_91 (by decide) (by omega) (fun c_24 => ?_) (fun c_24 => ?_)
          · refine lv_aload_n hx hb dX6_reads_98 rfl (lv_at hl 2 rfl) ?_
            refine va_get (v := .int (iZ ((0 + ((tf at_.toNat) % 128)) + (((tf (at_.toNat + 1)) % 128) * 128)))) (C := RX6) (T := TX6) (N := 24) (ci := 6) hx hb hts hi_6 hown hK hP 0 rfl rfl 19 (by decide) hw_3 (fun _ h9 => h9) rfl dX6_reads_99 ?_
            refine z_ldc hx hb (65536) hown hw_6 (by decide) dX6_reads_102 ?_
            refine z_icmp_lt (tgt := 119) hx hb dX6_reads_104 (by decide) (by omega) (by omega) (fun c_25 => ?_) (fun c_25 => ?_)
            · refine z_iconst hx hb dX6_reads_119 ?_
              refine lv_goto (tgt := 124) hx hb dX6_reads_120 (by decide) ?_
              exact rw_zret (z := 1) ((at_ + 1) + 1, fa, fp, (0 + ((tf at_.toNat) % 128)) + (((tf (at_.toNat + 1)) % 128) * 128), at_) hx hb hr hlocks (Or.inr rfl) hP hD hS (by first | (rw [uns_e0 (by omega)]; dsimp only [mR]; omega) | (rw [uns_v0 (by omega) (by omega)]; dsimp only [mR]; omega) | (rw [uns_e1 (by omega) (by omega) (by omega)]; dsimp only [mR]; omega) | (rw [uns_z1 (by omega) (by omega) (by omega) (by omega) (by omega)]; dsimp only [mR]; omega) | (rw [uns_v1 (by omega) (by omega) (by omega) (by omega) (by omega)]; dsimp only [mR]; omega) | (rw [uns_e2 (by omega) (by omega) (by omega) (by omega) (by omega)]; dsimp only [mR]; omega) | (rw [uns_z2 (by omega) (by omega) (by omega) (by omega) (by omega) (by omega) (by omega)]; dsimp only [mR]; omega) | (rw [uns_v2 (by omega) (by omega) (by omega) (by omega) (by omega) (by omega) (by omega)]; dsimp only [mR]; omega) | (rw [uns_b (by omega) (by omega) (by omega) (by omega) (by omega) (by omega)]; dsimp only [mR]; omega)) dX6_reads_124
            · refine lv_aload_n hx hb dX6_reads_107 rfl (lv_at hl 2 rfl) ?_
              refine z_iconst hx hb dX6_reads_108 ?_
              refine lv_aload_n hx hb dX6_reads_109 rfl (lv_at hl 2 rfl) ?_
              refine va_get (v := .int (iZ at_)) (C := RX6) (T := TX6) (N := 24) (ci := 6) hx hb hts hi_6 hown hK hP 0 rfl rfl 20 (by decide) hw_2 (fun _ h9 => h9) rfl dX6_reads_110 ?_
              refine rw_i (wr := []) (va_runV (As := [.int (iZ 2), .int (iZ at_)]) (rest := []) ⟨hx, hb, hml, hown, hts⟩ (c_X6_wrong l D cI cJ cB cZ h a1 a2 a3 a4 a5 a6 a7 thr eg fr wt rk nx nd es pp qq st ch bo tp le sz ((at_ + 1) + 1) fa fp ((0 + ((tf at_.toNat) % 128)) + (((tf (at_.toNat + 1)) % 128) * 128)) at_ nn ou om 2 at_ _) (cwV 2 hts gX6_reads_X6_wrong rfl rfl rfl (by decide +kernel) ⟨Nat.le_of_ble_eq_true rfl, Nat.le_of_ble_eq_true rfl⟩) (pre1V hE hP hD 0 rfl rfl) rfl rfl hl.1 rfl (lv_room (Nat.le_of_ble_eq_true rfl)) dX6_reads_113 ⟨Nat.le_of_ble_eq_true rfl, Nat.le_of_ble_eq_true rfl⟩) hP hD hS hA [0, 1, 2, 3, 4, 5, 6, 7] [] rfl rfl (by decide) (by decide) (fun r_26 u_28 H locs hr_27 hP hD hS => ?_)
              obtain ⟨rfl, rfl⟩ := hr_27
              have hP := hP.sub (ws' := (wMo cI cJ cB cZ h a1 a2 a3 a4 a5 a6 a7 thr eg fr wt rk nx nd es pp qq st ch bo tp le sz ((at_ + 1) + 1) 2 at_ ((0 + ((tf at_.toNat) % 128)) + (((tf (at_.toNat + 1)) % 128) * 128)) at_ nn ou om)) [0, 1, 2, 3, 4, 5, 6, 7] rfl
              have hD := hD.sub (ws' := (wMo cI cJ cB cZ h a1 a2 a3 a4 a5 a6 a7 thr eg fr wt rk nx nd es pp qq st ch bo tp le sz ((at_ + 1) + 1) 2 at_ ((0 + ((tf at_.toNat) % 128)) + (((tf (at_.toNat + 1)) % 128) * 128)) at_ nn ou om)) [0, 1, 2, 3, 4, 5, 6, 7] (by decide) rfl
              refine z_if_eq (tgt := 123) hx hb dX6_reads_116 (by decide) (by omega) (fun _ => ?_) (fun c9 => absurd c9 (by decide))
              refine z_iconst hx hb dX6_reads_123 ?_
              exact rw_zret (z := 0) ((at_ + 1) + 1, 2, at_, (0 + ((tf at_.toNat) % 128)) + (((tf (at_.toNat + 1)) % 128) * 128), at_) hx hb hr hlocks (Or.inl rfl) hP hD hS (by first | (rw [uns_e0 (by omega)]; dsimp only [mR]; omega) | (rw [uns_v0 (by omega) (by omega)]; dsimp only [mR]; omega) | (rw [uns_e1 (by omega) (by omega) (by omega)]; dsimp only [mR]; omega) | (rw [uns_z1 (by omega) (by omega) (by omega) (by omega) (by omega)]; dsimp only [mR]; omega) | (rw [uns_v1 (by omega) (by omega) (by omega) (by omega) (by omega)]; dsimp only [mR]; omega) | (rw [uns_e2 (by omega) (by omega) (by omega) (by omega) (by omega)]; dsimp only [mR]; omega) | (rw [uns_z2 (by omega) (by omega) (by omega) (by omega) (by omega) (by omega) (by omega)]; dsimp only [mR]; omega) | (rw [uns_v2 (by omega) (by omega) (by omega) (by omega) (by omega) (by omega) (by omega)]; dsimp only [mR]; omega) | (rw [uns_b (by omega) (by omega) (by omega) (by omega) (by omega) (by omega)]; dsimp only [mR]; omega)) dX6_reads_124
          · refine lv_iload_n hx hb dX6_reads_94 rfl (lv_at hl 1 rfl) ?_
            refine z_if_ne (tgt := 107) hx hb dX6_reads_95 (by decide) (by omega) (fun _ => ?_) (fun c9 => absurd c9 (by decide))
            refine lv_aload_n hx hb dX6_reads_107 rfl (lv_at hl 2 rfl) ?_
            refine z_iconst hx hb dX6_reads_108 ?_
            refine lv_aload_n hx hb dX6_reads_109 rfl (lv_at hl 2 rfl) ?_
            refine va_get (v := .int (iZ at_)) (C := RX6) (T := TX6) (N := 24) (ci := 6) hx hb hts hi_6 hown hK hP 0 rfl rfl 20 (by decide) hw_2 (fun _ h9 => h9) rfl dX6_reads_110 ?_
            refine rw_i (wr := []) (va_runV (As := [.int (iZ 2), .int (iZ at_)]) (rest := []) ⟨hx, hb, hml, hown, hts⟩ (c_X6_wrong l D cI cJ cB cZ h a1 a2 a3 a4 a5 a6 a7 thr eg fr wt rk nx nd es pp qq st ch bo tp le sz ((at_ + 1) + 1) fa fp ((0 + ((tf at_.toNat) % 128)) + (((tf (at_.toNat + 1)) % 128) * 128)) at_ nn ou om 2 at_ _) (cwV 2 hts gX6_reads_X6_wrong rfl rfl rfl (by decide +kernel) ⟨Nat.le_of_ble_eq_true rfl, Nat.le_of_ble_eq_true rfl⟩) (pre1V hE hP hD 0 rfl rfl) rfl rfl hl.1 rfl (lv_room (Nat.le_of_ble_eq_true rfl)) dX6_reads_113 ⟨Nat.le_of_ble_eq_true rfl, Nat.le_of_ble_eq_true rfl⟩) hP hD hS hA [0, 1, 2, 3, 4, 5, 6, 7] [] rfl rfl (by decide) (by decide) (fun r_29 u_31 H locs hr_30 hP hD hS => ?_)
            obtain ⟨rfl, rfl⟩ := hr_30
            have hP := hP.sub (ws' := (wMo cI cJ cB cZ h a1 a2 a3 a4 a5 a6 a7 thr eg fr wt rk nx nd es pp qq st ch bo tp le sz ((at_ + 1) + 1) 2 at_ ((0 + ((tf at_.toNat) % 128)) + (((tf (at_.toNat + 1)) % 128) * 128)) at_ nn ou om)) [0, 1, 2, 3, 4, 5, 6, 7] rfl
            have hD := hD.sub (ws' := (wMo cI cJ cB cZ h a1 a2 a3 a4 a5 a6 a7 thr eg fr wt rk nx nd es pp qq st ch bo tp le sz ((at_ + 1) + 1) 2 at_ ((0 + ((tf at_.toNat) % 128)) + (((tf (at_.toNat + 1)) % 128) * 128)) at_ nn ou om)) [0, 1, 2, 3, 4, 5, 6, 7] (by decide) rfl
            refine z_if_eq (tgt := 123) hx hb dX6_reads_116 (by decide) (by omega) (fun _ => ?_) (fun c9 => absurd c9 (by decide))
            refine z_iconst hx hb dX6_reads_123 ?_
            exact rw_zret (z := 0) ((at_ + 1) + 1, 2, at_, (0 + ((tf at_.toNat) % 128)) + (((tf (at_.toNat + 1)) % 128) * 128), at_) hx hb hr hlocks (Or.inl rfl) hP hD hS (by first | (rw [uns_e0 (by omega)]; dsimp only [mR]; omega) | (rw [uns_v0 (by omega) (by omega)]; dsimp only [mR]; omega) | (rw [uns_e1 (by omega) (by omega) (by omega)]; dsimp only [mR]; omega) | (rw [uns_z1 (by omega) (by omega) (by omega) (by omega) (by omega)]; dsimp only [mR]; omega) | (rw [uns_v1 (by omega) (by omega) (by omega) (by omega) (by omega)]; dsimp only [mR]; omega) | (rw [uns_e2 (by omega) (by omega) (by omega) (by omega) (by omega)]; dsimp only [mR]; omega) | (rw [uns_z2 (by omega) (by omega) (by omega) (by omega) (by omega) (by omega) (by omega)]; dsimp only [mR]; omega) | (rw [uns_v2 (by omega) (by omega) (by omega) (by omega) (by omega) (by omega) (by omega)]; dsimp only [mR]; omega) | (rw [uns_b (by omega) (by omega) (by omega) (by omega) (by omega) (by omega)]; dsimp only [mR]; omega)) dX6_reads_124
      · refine lv_aload_n hx hb dX6_reads_31 rfl (lv_at hl 2 rfl) ?_
        refine z_iconst hx hb dX6_reads_32 ?_
        refine lv_aload_n hx hb dX6_reads_33 rfl (lv_at hl 2 rfl) ?_
        refine va_get (v := .int (iZ sz)) (C := RX6) (T := TX6) (N := 24) (ci := 6) hx hb hts hi_6 hown hK hP 0 rfl rfl 15 (by decide) hw_4 (fun _ h9 => h9) rfl dX6_reads_34 ?_
        refine rw_i (wr := []) (va_runV (As := [.int (iZ 1), .int (iZ sz)]) (rest := []) ⟨hx, hb, hml, hown, hts⟩ (c_X6_wrong l D cI cJ cB cZ h a1 a2 a3 a4 a5 a6 a7 thr eg fr wt rk nx nd es pp qq st ch bo tp le sz (at_ + 1) fa fp (0 + ((tf at_.toNat) % 128)) at_ nn ou om 1 sz _) (cwV 2 hts gX6_reads_X6_wrong rfl rfl rfl (by decide +kernel) ⟨Nat.le_of_ble_eq_true rfl, Nat.le_of_ble_eq_true rfl⟩) (pre1V hE hP hD 0 rfl rfl) rfl rfl hl.1 rfl (lv_room (Nat.le_of_ble_eq_true rfl)) dX6_reads_37 ⟨Nat.le_of_ble_eq_true rfl, Nat.le_of_ble_eq_true rfl⟩) hP hD hS hA [0, 1, 2, 3, 4, 5, 6, 7] [] rfl rfl (by decide) (by decide) (fun r_32 u_34 H locs hr_33 hP hD hS => ?_)
        obtain ⟨rfl, rfl⟩ := hr_33
        have hP := hP.sub (ws' := (wMo cI cJ cB cZ h a1 a2 a3 a4 a5 a6 a7 thr eg fr wt rk nx nd es pp qq st ch bo tp le sz (at_ + 1) 1 sz (0 + ((tf at_.toNat) % 128)) at_ nn ou om)) [0, 1, 2, 3, 4, 5, 6, 7] rfl
        have hD := hD.sub (ws' := (wMo cI cJ cB cZ h a1 a2 a3 a4 a5 a6 a7 thr eg fr wt rk nx nd es pp qq st ch bo tp le sz (at_ + 1) 1 sz (0 + ((tf at_.toNat) % 128)) at_ nn ou om)) [0, 1, 2, 3, 4, 5, 6, 7] (by decide) rfl
        exact rw_zret (z := 0) (at_ + 1, 1, sz, 0 + ((tf at_.toNat) % 128), at_) hx hb hr hlocks (Or.inl rfl) hP hD hS (by first | (rw [uns_e0 (by omega)]; dsimp only [mR]; omega) | (rw [uns_v0 (by omega) (by omega)]; dsimp only [mR]; omega) | (rw [uns_e1 (by omega) (by omega) (by omega)]; dsimp only [mR]; omega) | (rw [uns_z1 (by omega) (by omega) (by omega) (by omega) (by omega)]; dsimp only [mR]; omega) | (rw [uns_v1 (by omega) (by omega) (by omega) (by omega) (by omega)]; dsimp only [mR]; omega) | (rw [uns_e2 (by omega) (by omega) (by omega) (by omega) (by omega)]; dsimp only [mR]; omega) | (rw [uns_z2 (by omega) (by omega) (by omega) (by omega) (by omega) (by omega) (by omega)]; dsimp only [mR]; omega) | (rw [uns_v2 (by omega) (by omega) (by omega) (by omega) (by omega) (by omega) (by omega)]; dsimp only [mR]; omega) | (rw [uns_b (by omega) (by omega) (by omega) (by omega) (by omega) (by omega)]; dsimp only [mR]; omega)) dX6_reads_40
    · refine lv_iload_n hx hb dX6_reads_90 rfl (lv_at hl 0 rfl) ?_
      refine z_if_gt (tgt := 98) hx hb dX6_reads_91 (by decide) (by omega) (fun c_35 => ?_) (fun c_35 => ?_)
      · refine lv_aload_n hx hb dX6_reads_98 rfl (lv_at hl 2 rfl) ?_
        refine va_get (v := .int (iZ (0 + ((tf at_.toNat) % 128)))) (C := RX6) (T := TX6) (N := 24) (ci := 6) hx hb hts hi_6 hown hK hP 0 rfl rfl 19 (by decide) hw_3 (fun _ h9 => h9) rfl dX6_reads_99 ?_
        refine z_ldc hx hb (65536) hown hw_6 (by decide) dX6_reads_102 ?_
        refine z_icmp_lt (tgt := 119) hx hb dX6_reads_104 (by decide) (by omega) (by omega) (fun c_36 => ?_) (fun c_36 => ?_)
        · refine z_iconst hx hb dX6_reads_119 ?_
          refine lv_goto (tgt := 124) hx hb dX6_reads_120 (by decide) ?_
          exact rw_zret (z := 1) (at_ + 1, fa, fp, 0 + ((tf at_.toNat) % 128), at_) hx hb hr hlocks (Or.inr rfl) hP hD hS (by first | (rw [uns_e0 (by omega)]; dsimp only [mR]; omega) | (rw [uns_v0 (by omega) (by omega)]; dsimp only [mR]; omega) | (rw [uns_e1 (by omega) (by omega) (by omega)]; dsimp only [mR]; omega) | (rw [uns_z1 (by omega) (by omega) (by omega) (by omega) (by omega)]; dsimp only [mR]; omega) | (rw [uns_v1 (by omega) (by omega) (by omega) (by omega) (by omega)]; dsimp only [mR]; omega) | (rw [uns_e2 (by omega) (by omega) (by omega) (by omega) (by omega)]; dsimp only [mR]; omega) | (rw [uns_z2 (by omega) (by omega) (by omega) (by omega) (by omega) (by omega) (by omega)]; dsimp only [mR]; omega) | (rw [uns_v2 (by omega) (by omega) (by omega) (by omega) (by omega) (by omega) (by omega)]; dsimp only [mR]; omega) | (rw [uns_b (by omega) (by omega) (by omega) (by omega) (by omega) (by omega)]; dsimp only [mR]; omega)) dX6_reads_124
        · refine lv_aload_n hx hb dX6_reads_107 rfl (lv_at hl 2 rfl) ?_
          refine z_iconst hx hb dX6_reads_108 ?_
          refine lv_aload_n hx hb dX6_reads_109 rfl (lv_at hl 2 rfl) ?_
          refine va_get (v := .int (iZ at_)) (C := RX6) (T := TX6) (N := 24) (ci := 6) hx hb hts hi_6 hown hK hP 0 rfl rfl 20 (by decide) hw_2 (fun _ h9 => h9) rfl dX6_reads_110 ?_
          refine rw_i (wr := []) (va_runV (As := [.int (iZ 2), .int (iZ at_)]) (rest := []) ⟨hx, hb, hml, hown, hts⟩ (c_X6_wrong l D cI cJ cB cZ h a1 a2 a3 a4 a5 a6 a7 thr eg fr wt rk nx nd es pp qq st ch bo tp le sz (at_ + 1) fa fp (0 + ((tf at_.toNat) % 128)) at_ nn ou om 2 at_ _) (cwV 2 hts gX6_reads_X6_wrong rfl rfl rfl (by decide +kernel) ⟨Nat.le_of_ble_eq_true rfl, Nat.le_of_ble_eq_true rfl⟩) (pre1V hE hP hD 0 rfl rfl) rfl rfl hl.1 rfl (lv_room (Nat.le_of_ble_eq_true rfl)) dX6_reads_113 ⟨Nat.le_of_ble_eq_true rfl, Nat.le_of_ble_eq_true rfl⟩) hP hD hS hA [0, 1, 2, 3, 4, 5, 6, 7] [] rfl rfl (by decide) (by decide) (fun r_37 u_39 H locs hr_38 hP hD hS => ?_)
          obtain ⟨rfl, rfl⟩ := hr_38
          have hP := hP.sub (ws' := (wMo cI cJ cB cZ h a1 a2 a3 a4 a5 a6 a7 thr eg fr wt rk nx nd es pp qq st ch bo tp le sz (at_ + 1) 2 at_ (0 + ((tf at_.toNat) % 128)) at_ nn ou om)) [0, 1, 2, 3, 4, 5, 6, 7] rfl
          have hD := hD.sub (ws' := (wMo cI cJ cB cZ h a1 a2 a3 a4 a5 a6 a7 thr eg fr wt rk nx nd es pp qq st ch bo tp le sz (at_ + 1) 2 at_ (0 + ((tf at_.toNat) % 128)) at_ nn ou om)) [0, 1, 2, 3, 4, 5, 6, 7] (by decide) rfl
          refine z_if_eq (tgt := 123) hx hb dX6_reads_116 (by decide) (by omega) (fun _ => ?_) (fun c9 => absurd c9 (by decide))
          refine z_iconst hx hb dX6_reads_123 ?_
          exact rw_zret (z := 0) (at_ + 1, 2, at_, 0 + ((tf at_.toNat) % 128), at_) hx hb hr hlocks (Or.inl rfl) hP hD hS (by first | (rw [uns_e0 (by omega)]; dsimp only [mR]; omega) | (rw [uns_v0 (by omega) (by omega)]; dsimp only [mR]; omega) | (rw [uns_e1 (by omega) (by omega) (by omega)]; dsimp only [mR]; omega) | (rw [uns_z1 (by omega) (by omega) (by omega) (by omega) (by omega)]; dsimp only [mR]; omega) | (rw [uns_v1 (by omega) (by omega) (by omega) (by omega) (by omega)]; dsimp only [mR]; omega) | (rw [uns_e2 (by omega) (by omega) (by omega) (by omega) (by omega)]; dsimp only [mR]; omega) | (rw [uns_z2 (by omega) (by omega) (by omega) (by omega) (by omega) (by omega) (by omega)]; dsimp only [mR]; omega) | (rw [uns_v2 (by omega) (by omega) (by omega) (by omega) (by omega) (by omega) (by omega)]; dsimp only [mR]; omega) | (rw [uns_b (by omega) (by omega) (by omega) (by omega) (by omega) (by omega)]; dsimp only [mR]; omega)) dX6_reads_124
      · refine lv_iload_n hx hb dX6_reads_94 rfl (lv_at hl 1 rfl) ?_
        refine z_if_ne (tgt := 107) hx hb dX6_reads_95 (by decide) (by omega) (fun c9 => absurd c9 (by decide)) (fun _ => ?_)
        refine lv_aload_n hx hb dX6_reads_98 rfl (lv_at hl 2 rfl) ?_
        refine va_get (v := .int (iZ (0 + ((tf at_.toNat) % 128)))) (C := RX6) (T := TX6) (N := 24) (ci := 6) hx hb hts hi_6 hown hK hP 0 rfl rfl 19 (by decide) hw_3 (fun _ h9 => h9) rfl dX6_reads_99 ?_
        refine z_ldc hx hb (65536) hown hw_6 (by decide) dX6_reads_102 ?_
        refine z_icmp_lt (tgt := 119) hx hb dX6_reads_104 (by decide) (by omega) (by omega) (fun c_40 => ?_) (fun c_40 => ?_)
        · refine z_iconst hx hb dX6_reads_119 ?_
          refine lv_goto (tgt := 124) hx hb dX6_reads_120 (by decide) ?_
          exact rw_zret (z := 1) (at_ + 1, fa, fp, 0 + ((tf at_.toNat) % 128), at_) hx hb hr hlocks (Or.inr rfl) hP hD hS (by first | (rw [uns_e0 (by omega)]; dsimp only [mR]; omega) | (rw [uns_v0 (by omega) (by omega)]; dsimp only [mR]; omega) | (rw [uns_e1 (by omega) (by omega) (by omega)]; dsimp only [mR]; omega) | (rw [uns_z1 (by omega) (by omega) (by omega) (by omega) (by omega)]; dsimp only [mR]; omega) | (rw [uns_v1 (by omega) (by omega) (by omega) (by omega) (by omega)]; dsimp only [mR]; omega) | (rw [uns_e2 (by omega) (by omega) (by omega) (by omega) (by omega)]; dsimp only [mR]; omega) | (rw [uns_z2 (by omega) (by omega) (by omega) (by omega) (by omega) (by omega) (by omega)]; dsimp only [mR]; omega) | (rw [uns_v2 (by omega) (by omega) (by omega) (by omega) (by omega) (by omega) (by omega)]; dsimp only [mR]; omega) | (rw [uns_b (by omega) (by omega) (by omega) (by omega) (by omega) (by omega)]; dsimp only [mR]; omega)) dX6_reads_124
        · refine lv_aload_n hx hb dX6_reads_107 rfl (lv_at hl 2 rfl) ?_
          refine z_iconst hx hb dX6_reads_108 ?_
          refine lv_aload_n hx hb dX6_reads_109 rfl (lv_at hl 2 rfl) ?_
          refine va_get (v := .int (iZ at_)) (C := RX6) (T := TX6) (N := 24) (ci := 6) hx hb hts hi_6 hown hK hP 0 rfl rfl 20 (by decide) hw_2 (fun _ h9 => h9) rfl dX6_reads_110 ?_
          refine rw_i (wr := []) (va_runV (As := [.int (iZ 2), .int (iZ at_)]) (rest := []) ⟨hx, hb, hml, hown, hts⟩ (c_X6_wrong l D cI cJ cB cZ h a1 a2 a3 a4 a5 a6 a7 thr eg fr wt rk nx nd es pp qq st ch bo tp le sz (at_ + 1) fa fp (0 + ((tf at_.toNat) % 128)) at_ nn ou om 2 at_ _) (cwV 2 hts gX6_reads_X6_wrong rfl rfl rfl (by decide +kernel) ⟨Nat.le_of_ble_eq_true rfl, Nat.le_of_ble_eq_true rfl⟩) (pre1V hE hP hD 0 rfl rfl) rfl rfl hl.1 rfl (lv_room (Nat.le_of_ble_eq_true rfl)) dX6_reads_113 ⟨Nat.le_of_ble_eq_true rfl, Nat.le_of_ble_eq_true rfl⟩) hP hD hS hA [0, 1, 2, 3, 4, 5, 6, 7] [] rfl rfl (by decide) (by decide) (fun r_41 u_43 H locs hr_42 hP hD hS => ?_)
          obtain ⟨rfl, rfl⟩ := hr_42
          have hP := hP.sub (ws' := (wMo cI cJ cB cZ h a1 a2 a3 a4 a5 a6 a7 thr eg fr wt rk nx nd es pp qq st ch bo tp le sz (at_ + 1) 2 at_ (0 + ((tf at_.toNat) % 128)) at_ nn ou om)) [0, 1, 2, 3, 4, 5, 6, 7] rfl
          have hD := hD.sub (ws' := (wMo cI cJ cB cZ h a1 a2 a3 a4 a5 a6 a7 thr eg fr wt rk nx nd es pp qq st ch bo tp le sz (at_ + 1) 2 at_ (0 + ((tf at_.toNat) % 128)) at_ nn ou om)) [0, 1, 2, 3, 4, 5, 6, 7] (by decide) rfl
          refine z_if_eq (tgt := 123) hx hb dX6_reads_116 (by decide) (by omega) (fun _ => ?_) (fun c9 => absurd c9 (by decide))
          refine z_iconst hx hb dX6_reads_123 ?_
          exact rw_zret (z := 0) (at_ + 1, 2, at_, 0 + ((tf at_.toNat) % 128), at_) hx hb hr hlocks (Or.inl rfl) hP hD hS (by first | (rw [uns_e0 (by omega)]; dsimp only [mR]; omega) | (rw [uns_v0 (by omega) (by omega)]; dsimp only [mR]; omega) | (rw [uns_e1 (by omega) (by omega) (by omega)]; dsimp only [mR]; omega) | (rw [uns_z1 (by omega) (by omega) (by omega) (by omega) (by omega)]; dsimp only [mR]; omega) | (rw [uns_v1 (by omega) (by omega) (by omega) (by omega) (by omega)]; dsimp only [mR]; omega) | (rw [uns_e2 (by omega) (by omega) (by omega) (by omega) (by omega)]; dsimp only [mR]; omega) | (rw [uns_z2 (by omega) (by omega) (by omega) (by omega) (by omega) (by omega) (by omega)]; dsimp only [mR]; omega) | (rw [uns_v2 (by omega) (by omega) (by omega) (by omega) (by omega) (by omega) (by omega)]; dsimp only [mR]; omega) | (rw [uns_b (by omega) (by omega) (by omega) (by omega) (by omega) (by omega)]; dsimp only [mR]; omega)) dX6_reads_124
  · refine lv_aload_n hx hb dX6_reads_31 rfl (lv_at hl 1 rfl) ?_
    refine z_iconst hx hb dX6_reads_32 ?_
    refine lv_aload_n hx hb dX6_reads_33 rfl (lv_at hl 1 rfl) ?_
    refine va_get (v := .int (iZ sz)) (C := RX6) (T := TX6) (N := 24) (ci := 6) hx hb hts hi_6 hown hK hP 0 rfl rfl 15 (by decide) hw_4 (fun _ h9 => h9) rfl dX6_reads_34 ?_
    refine rw_i (wr := []) (va_runV (As := [.int (iZ 1), .int (iZ sz)]) (rest := []) ⟨hx, hb, hml, hown, hts⟩ (c_X6_wrong l D cI cJ cB cZ h a1 a2 a3 a4 a5 a6 a7 thr eg fr wt rk nx nd es pp qq st ch bo tp le sz at_ fa fp 0 at_ nn ou om 1 sz _) (cwV 2 hts gX6_reads_X6_wrong rfl rfl rfl (by decide +kernel) ⟨Nat.le_of_ble_eq_true rfl, Nat.le_of_ble_eq_true rfl⟩) (pre1V hE hP hD 0 rfl rfl) rfl rfl hl.1 rfl (lv_room (Nat.le_of_ble_eq_true rfl)) dX6_reads_37 ⟨Nat.le_of_ble_eq_true rfl, Nat.le_of_ble_eq_true rfl⟩) hP hD hS hA [0, 1, 2, 3, 4, 5, 6, 7] [] rfl rfl (by decide) (by decide) (fun r_44 u_46 H locs hr_45 hP hD hS => ?_)
    obtain ⟨rfl, rfl⟩ := hr_45
    have hP := hP.sub (ws' := (wMo cI cJ cB cZ h a1 a2 a3 a4 a5 a6 a7 thr eg fr wt rk nx nd es pp qq st ch bo tp le sz at_ 1 sz 0 at_ nn ou om)) [0, 1, 2, 3, 4, 5, 6, 7] rfl
    have hD := hD.sub (ws' := (wMo cI cJ cB cZ h a1 a2 a3 a4 a5 a6 a7 thr eg fr wt rk nx nd es pp qq st ch bo tp le sz at_ 1 sz 0 at_ nn ou om)) [0, 1, 2, 3, 4, 5, 6, 7] (by decide) rfl
    exact rw_zret (z := 0) (at_, 1, sz, 0, at_) hx hb hr hlocks (Or.inl rfl) hP hD hS (by first | (rw [uns_e0 (by omega)]; dsimp only [mR]; omega) | (rw [uns_v0 (by omega) (by omega)]; dsimp only [mR]; omega) | (rw [uns_e1 (by omega) (by omega) (by omega)]; dsimp only [mR]; omega) | (rw [uns_z1 (by omega) (by omega) (by omega) (by omega) (by omega)]; dsimp only [mR]; omega) | (rw [uns_v1 (by omega) (by omega) (by omega) (by omega) (by omega)]; dsimp only [mR]; omega) | (rw [uns_e2 (by omega) (by omega) (by omega) (by omega) (by omega)]; dsimp only [mR]; omega) | (rw [uns_z2 (by omega) (by omega) (by omega) (by omega) (by omega) (by omega) (by omega)]; dsimp only [mR]; omega) | (rw [uns_v2 (by omega) (by omega) (by omega) (by omega) (by omega) (by omega) (by omega)]; dsimp only [mR]; omega) | (rw [uns_b (by omega) (by omega) (by omega) (by omega) (by omega) (by omega)]; dsimp only [mR]; omega)) dX6_reads_40
