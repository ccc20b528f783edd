theorem iZ_shl0 {z : Int} (h : 0 ≤ z ∧ z < 128) : iZ z <<< (iZ 0 &&& 31) = iZ z := by
  rw [iZ_shl z 0 0 rfl]
  congr 1
  omega
theorem iZ_shl7 {z : Int} (h : 0 ≤ z ∧ z < 128) : iZ z <<< (iZ 7 &&& 31) = iZ (z * 128) := by
  rw [iZ_shl z 7 7 rfl]
  congr 1
  omega
theorem iZ_shl14 {z : Int} (h : 0 ≤ z ∧ z < 128) : iZ z <<< (iZ 14 &&& 31) = iZ (z * 16384) := by
  rw [iZ_shl z 14 14 rfl]
  congr 1
  omega
theorem pRow_v {T : Nat → Int} {L n u r : Nat} {v v2 : Int} {pos : Nat} {E : Ed} : pRow T L n u r true v pos E = pRow T L n u r true v2 pos E := by
  cases r with
  | zero => rfl
  | succ r => rw [pRow, pRow]; simp
theorem sg_r {c : Int} (h : 0 ≤ c ∧ c ≤ 65535) : -32768 ≤ sg c ∧ sg c ≤ 32768 := by
  unfold sg
  split <;> omega
