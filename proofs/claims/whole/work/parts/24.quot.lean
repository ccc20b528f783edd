set_option maxHeartbeats 4000000 in
set_option maxRecDepth 100000 in
theorem c_X5_quotient (l : Launch) (D : va_G) (cI cJ cB cZ : ClassId) (a b : Int) (ha : 0 ≤ a ∧ a < 9223372036854775808) (hb0 : 0 ≤ b ∧ b < 9223372036854775808) : Met l yX5_quotient wsX5_quotient ({ frames := 0, cells := 0, slots := 0, locals := 0 } : Room) (Pre0 D cI cJ cB cZ [.long (lZ a), .long (lZ b)] []) (roL (fun z => z = a / b)) 0 0 (fun _ => False) := by
  refine Met.ofW (cc := cX5_quotient) (maxL := 4) (ret := (some .long)) (by decide) rfl ?_
  intro p e s m args below meth c s₁ B hml hv
  obtain ⟨rfl, hP, hE⟩ := hv
  have hx := B.exec
  have hb := B.bytes
  have hr := B.returns
  have hts := atoms_spec (ws := wsX5_quotient) B.pre
  have hown : s.vm.findClass RX5 = some m.cls := findClass_of_methodNamed B.named
  have hlocks := B.notSynchronized
  have hK := hE.1
  have hl := lv_entry ([.long (lZ a), .long (lZ b)]) (n := 4) (Nat.le_of_ble_eq_true rfl)
  rw [lg_entry_eq]
  generalize (lg_sl ([.long (lZ a), .long (lZ b)]) ++ List.replicate (4 - (lg_sl ([.long (lZ a), .long (lZ b)])).length) Slot.unset).toArray = ls at hl ⊢
  have hl : lv_has ls 4 [(0, .long (lZ a)), (2, .long (lZ b))] := hl
  refine lv_lload_n hx hb dX5_quotient_0 rfl (lv_at hl 1 rfl) ?_
  refine z_lconst hx hb 0  dX5_quotient_1 rfl ?_
  refine z_lc_le (tgt := 12) hx hb dX5_quotient_2 dX5_quotient_3 (by decide) (by omega) (by omega) (fun c_1 => ?_) (fun c_1 => ?_)
  · refine z_lconst hx hb 0  dX5_quotient_12 rfl ?_
    exact ro_lret (z := 0) hx hb hr hlocks (by rw [show b = 0 by omega, Int.ediv_zero]) dX5_quotient_13
  · refine lv_lload_n hx hb dX5_quotient_6 rfl (lv_at hl 0 rfl) ?_
    refine lv_lload_n hx hb dX5_quotient_7 rfl (lv_at hl 1 rfl) ?_
    refine z_ldiv hx hb dX5_quotient_8 (by omega) (by omega) ?_
    refine lv_goto (tgt := 13) hx hb dX5_quotient_9 (by decide) ?_
    exact ro_lret (z := a / b) hx hb hr hlocks rfl dX5_quotient_13
