theorem bv_iZ (z : Int) : (iZ z).toBitVec.toNat = (z % 4294967296).toNat := by
  show (BitVec.ofInt 32 z).toNat = _
  rw [BitVec.toNat_ofInt]
  rfl
theorem iZ_bv {x : Int32} {n : Nat} (h : x.toBitVec.toNat = n) : x = iZ (n : Int) := by
  apply Int32.toBitVec_inj.1
  apply BitVec.eq_of_toNat_eq
  rw [bv_iZ, h]
  have := x.toBitVec.isLt
  omega
theorem iZ_nat {n : Nat} {z : Int} (h : (n : Int) = z) : nI n = iZ z := by rw [← h, iZ_n]
theorem iZ_and255 (z : Int) : iZ z &&& iZ 255 = iZ (z % 256) := (pk_and (iZ z) 8 rfl).trans (iZ_nat (by rw [bv_iZ]; omega))
theorem iZ_and127 (z : Int) : iZ z &&& iZ 127 = iZ (z % 128) := (pk_and (iZ z) 7 rfl).trans (iZ_nat (by rw [bv_iZ]; omega))
theorem iZ_and31 (z : Int) : iZ z &&& iZ 31 = iZ (z % 32) := (pk_and (iZ z) 5 rfl).trans (iZ_nat (by rw [bv_iZ]; omega))
theorem iZ_and1 (z : Int) : iZ z &&& iZ 1 = iZ (z % 2) := (pk_and (iZ z) 1 rfl).trans (iZ_nat (by rw [bv_iZ]; omega))
theorem iZ_ushr (z s : Int) (k : Nat) (hs : (((iZ s).toUInt32 &&& Int32.toUInt32 31).toBitVec % 32).toNat = k) : ((iZ z).toUInt32 >>> ((iZ s).toUInt32 &&& Int32.toUInt32 31)).toInt32 = iZ (((z % 4294967296).toNat / 2 ^ k : Nat) : Int) := iZ_bv (by rw [pk_ushr (iZ z) (iZ s) k hs, bv_iZ])
theorem iZ_shr {z s : Int} (k : Nat) (hz : -2147483648 ≤ z ∧ z < 2147483648) (hs : (((iZ s) &&& 31).toBitVec.smod 32).toNat = k) : iZ z >>> (iZ s &&& 31) = iZ (z / 2 ^ k) := by
  apply Int32.toInt_inj.1
  rw [pk_shr (iZ z) (iZ s &&& 31) k hs, iZ_t hz, Int.shiftRight_eq_div_pow]
  have h1 : (0 : Int) < 2 ^ k := Int.pow_pos (by decide)
  rw [iZ_t]
  · rfl
  · have h2 : (1 : Int) ≤ 2 ^ k := h1
    constructor
    · refine (Int.le_ediv_iff_mul_le h1).mpr ?_
      have : (-2147483648 : Int) * 2 ^ k ≤ -2147483648 * 1 := Int.mul_le_mul_of_nonpos_left (by decide) h2
      omega
    · rcases Int.le_total 0 z with q | q
      · have := Int.ediv_le_self (b := (2 : Int) ^ k) q
        exact Int.lt_of_le_of_lt this hz.2
      · have : z / 2 ^ k ≤ 0 := Int.ediv_nonpos_of_nonpos_of_neg q h1
        omega
theorem iZ_shl (z s : Int) (k : Nat) (hs : (((iZ s) &&& 31).toBitVec.smod 32).toNat = k) : iZ z <<< (iZ s &&& 31) = iZ (((z % 4294967296).toNat * 2 ^ k % 4294967296 : Nat) : Int) := iZ_bv (by rw [pk_shl (iZ z) (iZ s &&& 31) k hs, bv_iZ])
theorem iZ_i2b (z : Int) : (iZ z).toInt8.toInt32 = iZ (z.bmod 256) := by
  apply Int32.toInt_inj.1
  rw [Int8.toInt_toInt32, iZ_t]
  · show (Int32.ofInt z).toInt8.toInt = _
    rw [Int32.toInt8_ofInt, Int8.toInt_ofInt]
  · have h1 := Int.le_bmod (x := z) (m := 256) (by decide)
    have h2 := Int.bmod_lt (x := z) (m := 256) (by decide)
    omega
theorem iZ_or128 {z : Int} (h : 0 ≤ z ∧ z < 128) : iZ 128 ||| iZ z = iZ (128 + z) := by
  obtain ⟨n, rfl⟩ : ∃ n : Nat, z = (n : Int) := ⟨z.toNat, by omega⟩
  have hn : n < 128 := by omega
  have key : ∀ n, n < 128 → iZ 128 ||| iZ ((n : Nat) : Int) = iZ (128 + ((n : Nat) : Int)) := by decide +kernel
  exact key n hn
theorem iZ_or128' {z : Int} (h : 0 ≤ z ∧ z < 128) : iZ z ||| iZ 128 = iZ (z + 128) := by
  obtain ⟨n, rfl⟩ : ∃ n : Nat, z = (n : Int) := ⟨z.toNat, by omega⟩
  have hn : n < 128 := by omega
  have key : ∀ n, n < 128 → iZ ((n : Nat) : Int) ||| iZ 128 = iZ (((n : Nat) : Int) + 128) := by decide +kernel
  exact key n hn
theorem nar_byte {z : Int} (h : -128 ≤ z ∧ z < 128) : vp_nar .byte (iZ z) = iZ z := by
  rw [vp_nar_byte]
  apply Int32.toInt_inj.1
  rw [Int8.toInt_toInt32, iZ_t (by omega)]
  show (Int32.ofInt z).toInt8.toInt = _
  rw [Int32.toInt8_ofInt, Int8.toInt_ofInt_of_le (by omega) (by omega)]
section ZB
variable {p : Program} {l : Launch} {e : Env} {R : Room} {s : State} {m : MethodId} {args : Array Value} {below : List Frame} {meth : Method} {c : Code} {H : Heap} {locs : List Loc} {cells slots : Nat} {Q : State → Prop}
variable {cc : ByteArray} {pc : Nat} {ls : Array Slot} {rest : List Value} {a b : Int} (z : Int)
theorem z_iand (hx : p.tables.exec = Jvm.exec) (hb : c.code = cc) (hdg : decode cc pc = .ok (.iand, 1)) (hv : iZ a &&& iZ b = iZ z) (k : W p l e R s m args below meth c H locs cells slots Q (F0 m (pc + 1) ls (.int (iZ z) :: rest))) : W p l e R s m args below meth c H locs cells slots Q (F0 m pc ls (.int (iZ b) :: .int (iZ a) :: rest)) := lv_iand hx hb hdg (by rw [hv]; exact k)
theorem z_ior (hx : p.tables.exec = Jvm.exec) (hb : c.code = cc) (hdg : decode cc pc = .ok (.ior, 1)) (hv : iZ a ||| iZ b = iZ z) (k : W p l e R s m args below meth c H locs cells slots Q (F0 m (pc + 1) ls (.int (iZ z) :: rest))) : W p l e R s m args below meth c H locs cells slots Q (F0 m pc ls (.int (iZ b) :: .int (iZ a) :: rest)) := lv_ior hx hb hdg (by rw [hv]; exact k)
theorem z_ishl (hx : p.tables.exec = Jvm.exec) (hb : c.code = cc) (hdg : decode cc pc = .ok (.ishl, 1)) (hv : iZ a <<< (iZ b &&& 31) = iZ z) (k : W p l e R s m args below meth c H locs cells slots Q (F0 m (pc + 1) ls (.int (iZ z) :: rest))) : W p l e R s m args below meth c H locs cells slots Q (F0 m pc ls (.int (iZ b) :: .int (iZ a) :: rest)) := lv_ishl hx hb hdg (by rw [hv]; exact k)
theorem z_ishr (hx : p.tables.exec = Jvm.exec) (hb : c.code = cc) (hdg : decode cc pc = .ok (.ishr, 1)) (hv : iZ a >>> (iZ b &&& 31) = iZ z) (k : W p l e R s m args below meth c H locs cells slots Q (F0 m (pc + 1) ls (.int (iZ z) :: rest))) : W p l e R s m args below meth c H locs cells slots Q (F0 m pc ls (.int (iZ b) :: .int (iZ a) :: rest)) := lv_ishr hx hb hdg (by rw [hv]; exact k)
theorem z_iushr (hx : p.tables.exec = Jvm.exec) (hb : c.code = cc) (hdg : decode cc pc = .ok (.iushr, 1)) (hv : ((iZ a).toUInt32 >>> ((iZ b).toUInt32 &&& Int32.toUInt32 31)).toInt32 = iZ z) (k : W p l e R s m args below meth c H locs cells slots Q (F0 m (pc + 1) ls (.int (iZ z) :: rest))) : W p l e R s m args below meth c H locs cells slots Q (F0 m pc ls (.int (iZ b) :: .int (iZ a) :: rest)) := lv_iushr hx hb hdg hv k
theorem z_i2b (hx : p.tables.exec = Jvm.exec) (hb : c.code = cc) (hdg : decode cc pc = .ok (.i2b, 1)) (hv : (iZ a).toInt8.toInt32 = iZ z) (k : W p l e R s m args below meth c H locs cells slots Q (F0 m (pc + 1) ls (.int (iZ z) :: rest))) : W p l e R s m args below meth c H locs cells slots Q (F0 m pc ls (.int (iZ a) :: rest)) := lv_i2b hx hb hdg hv k
end ZB
