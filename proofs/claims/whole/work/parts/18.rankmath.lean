/-! ranks -/
def shr (E : Ed) (N P Q : Nat) (x : Nat → Nat) (u : Nat) : Nat := P * x u / (Q * dgr E N u)
def bar (E : Ed) (N : Nat) (x : Nat → Nat) : Nat := fb_sm (fun u => if dgr E N u = 0 then x u else 0) N
def tla (E : Ed) (N P Q : Nat) (x : Nat → Nat) : Nat := ((Q - P) * 4294967296 + P * bar E N x) / Q
def stp (E : Ed) (N : Nat) (w : Nat → Nat) (P Q : Nat) (x : Nat → Nat) (v : Nat) : Nat := tla E N P Q x * w v / fb_sm w N + fb_sm (fun u => if E u v = true then shr E N P Q x u else 0) N
def dis (a b : Nat) : Nat := if a < b then b - a else a - b
def chg (N : Nat) (x y : Nat → Nat) : Nat := fb_sm (fun v => dis (x v) (y v)) N
def beg (N u : Nat) : Nat := 4294967296 / N + (if u < 4294967296 % N then 1 else 0)
theorem sm_mul (c : Nat) (f : Nat → Nat) : ∀ n, fb_sm (fun k => c * f k) n = c * fb_sm f n
  | 0 => rfl
  | n + 1 => by rw [fb_sm_succ, fb_sm_succ, sm_mul c f n, Nat.mul_add]
theorem sum_ex (E : Ed) (s : Nat → Nat) (M : Nat) : ∀ K, fb_sm (fun v => fb_sm (fun u => if E u v = true then s u else 0) M) K = fb_sm (fun u => fb_ct (E u) K * s u) M
  | 0 => by
    have h : fb_sm (fun u => fb_ct (E u) 0 * s u) M = fb_sm (fun _ => 0) M := fb_sm_cong (fun u _ => Nat.zero_mul _)
    rw [h, fb_sm_const]
    rfl
  | K + 1 => by
    rw [fb_sm_succ, sum_ex E s M K, ← fb_sm_add]
    refine fb_sm_cong (fun u _ => ?_)
    rw [fb_ct_succ]
    by_cases h : E u K = true
    · rw [if_pos h, if_pos h, Nat.add_mul, Nat.one_mul]
    · rw [if_neg h, if_neg h, Nat.add_zero, Nat.add_zero]
theorem sum_div (t W : Nat) (w : Nat → Nat) : ∀ K, fb_sm (fun v => t * w v / W) K * W ≤ t * fb_sm w K
  | 0 => by simp [fb_sm]
  | K + 1 => by
    rw [fb_sm_succ, fb_sm_succ, Nat.add_mul, Nat.mul_add]
    exact Nat.add_le_add (sum_div t W w K) (Nat.div_mul_le_self _ _)
theorem bar_le (E : Ed) (N : Nat) (x : Nat → Nat) : bar E N x ≤ fb_sm x N := fb_sm_le (fun u _ => by split <;> omega)
theorem tla_le {E : Ed} {N P Q : Nat} {x : Nat → Nat} (hPQ : P < Q) (hs : fb_sm x N ≤ 4294967296) : tla E N P Q x ≤ 4294967296 := by
  have h1 := Nat.mul_le_mul_left P (Nat.le_trans (bar_le E N x) hs)
  exact Nat.div_le_of_le_mul (by omega)
theorem tla_mul (E : Ed) (N P Q : Nat) (x : Nat → Nat) : Q * tla E N P Q x ≤ (Q - P) * 4294967296 + P * bar E N x := Nat.mul_div_le _ _
theorem stp_sum {E : Ed} {N P Q : Nat} {w x : Nat → Nat} (hW : 0 < fb_sm w N) (hPQ : P < Q) (hs : fb_sm x N ≤ 4294967296) : fb_sm (stp E N w P Q x) N ≤ 4294967296 := by
  have hA : fb_sm (fun v => tla E N P Q x * w v / fb_sm w N) N ≤ tla E N P Q x := Nat.le_of_mul_le_mul_right (sum_div (tla E N P Q x) (fb_sm w N) w N) hW
  have hB : Q * fb_sm (fun u => fb_ct (E u) N * shr E N P Q x u) N ≤ fb_sm (fun u => if dgr E N u = 0 then 0 else P * x u) N := by
    rw [← sm_mul]
    refine fb_sm_le (fun u _ => ?_)
    by_cases h : dgr E N u = 0
    · rw [if_pos h, show fb_ct (E u) N = 0 from h, Nat.zero_mul, Nat.mul_zero]
      exact Nat.le_refl _
    · rw [if_neg h, ← Nat.mul_assoc]
      exact Nat.mul_div_le _ _
  have hC : P * bar E N x + fb_sm (fun u => if dgr E N u = 0 then 0 else P * x u) N = P * fb_sm x N := by
    rw [bar, ← sm_mul, ← fb_sm_add, ← sm_mul]
    refine fb_sm_cong (fun u _ => ?_)
    by_cases h : dgr E N u = 0
    · rw [if_pos h, if_pos h, Nat.add_zero]
    · rw [if_neg h, if_neg h, Nat.mul_zero, Nat.zero_add]
  have hD := tla_mul E N P Q x
  have hF := Nat.mul_le_mul_left P hs
  have hS : fb_sm (stp E N w P Q x) N = fb_sm (fun v => tla E N P Q x * w v / fb_sm w N) N + fb_sm (fun u => fb_ct (E u) N * shr E N P Q x u) N := by
    rw [← sum_ex E (shr E N P Q x) N N, ← fb_sm_add]
    rfl
  have hG := Nat.mul_le_mul_left Q hA
  refine Nat.le_of_mul_le_mul_left (c := Q) ?_ (by omega)
  rw [hS, Nat.mul_add]
  omega
theorem sm_at {x : Nat → Nat} {N u : Nat} (h : u < N) : x u ≤ fb_sm x N := by
  have := fb_sm_part x h
  omega
theorem beg_sum {N : Nat} (h : 0 < N) : fb_sm (beg N) N = 4294967296 := by
  have h1 : ∀ k, fb_sm (beg N) k = k * (4294967296 / N) + (if k < 4294967296 % N then k else 4294967296 % N) := by
    intro k
    induction k with
    | zero =>
      rw [Nat.zero_mul]
      split <;> simp [fb_sm]
      omega
    | succ k ih =>
      rw [fb_sm_succ, ih, beg, Nat.succ_mul]
      (repeat' split) <;> omega
  have h2 := Nat.mod_lt 4294967296 h
  have h3 := Nat.div_add_mod 4294967296 N
  rw [h1, if_neg (by omega)]
  exact h3
theorem each_eq {N : Nat} {n : Int} (hn : n = (N : Int)) : (4294967296 : Int) / n = ((4294967296 / N : Nat) : Int) := by
  subst hn
  rw [Int.natCast_ediv]
  rfl
theorem left_eq {N : Nat} {n : Int} (hn : n = (N : Int)) : (4294967296 : Int) - ((4294967296 / N : Nat) : Int) * n = ((4294967296 % N : Nat) : Int) := by
  subst hn
  have h := Nat.div_add_mod 4294967296 N
  have h2 : ((N * (4294967296 / N) + 4294967296 % N : Nat) : Int) = ((4294967296 : Nat) : Int) := by rw [h]
  rw [Int.natCast_add, Int.natCast_mul, Int.mul_comm] at h2
  omega
def RK (N P Q : Nat) (x : Nat → Nat) (fn : Nat → Int) (p q : Int) : Prop := p = (P : Int) ∧ q = (Q : Int) ∧ P < Q ∧ Q < 1073741824 ∧ (∀ u, u < N → fn u = (x u : Int)) ∧ fb_sm x N ≤ 4294967296
theorem dis_eq {a b : Nat} : (if (0 : Int) < ((b : Int) - (a : Int)) then ((b : Int) - (a : Int)) else -((b : Int) - (a : Int))) = ((dis a b : Nat) : Int) := by
  unfold dis
  (repeat' split) <;> omega
theorem chg_le (N : Nat) (x y : Nat → Nat) : chg N x y ≤ fb_sm x N + fb_sm y N := by
  rw [← fb_sm_add]
  exact fb_sm_le (fun u _ => by unfold dis; split <;> omega)
section ZA
variable {p : Program} {l : Launch} {e : Env} {R : Room} {s : State} {m : MethodId} {args : Array Value} {below : List Frame} {meth : Method} {c : Code} {H : Heap} {locs : List Loc} {cells slots : Nat} {Q : State → Prop}
variable {cc : ByteArray} {pc : Nat} {ls : Array Slot} {rest : List Value} {a : Int}
theorem z_labs (hx : p.tables.exec = Jvm.exec) (hb : c.code = cc) (hml : c.maxLocals = ls.size) {own : String} {index : Nat} (hown : s.vm.findClass own = some m.cls) (hlink : (Cond.methodLink own index Lib.MathLoose.abs_long.x).before args s = true) (hstat : (Cond.static Lib.MathLoose.abs_long.x).before args s = true) (hini : (Cond.initialized "java/lang/Math").before args s = true) (hcode : (Cond.code Lib.MathLoose.abs_long.x Lib.MathLoose.abs_long.code 2 (some .long)).before args s = true)
    (hframes : 1 ≤ R.frames) (hlocals : (rest.map fun v => v.category).sum + 13 ≤ R.locals) (hc : cells ≤ R.cells) (hs : slots ≤ R.slots) (ha : -9223372036854775808 ≤ a ∧ a < 9223372036854775808) (hdg : decode cc pc = .ok (.invokestatic index, 3))
    (kk : W p l e R s m args below meth c H locs cells slots Q (F0 m (pc + 3) ls (.long (lZ (if 0 < a then a else -a)) :: rest))) : W p l e R s m args below meth c H locs cells slots Q (F0 m pc ls (.long (lZ a) :: rest)) := by
  refine va_mabs_long hx hb hml hown hlink hstat hini hcode hframes hlocals hc hs hdg ?_
  have h := lZ_lt (a := 0) (b := a) (by omega) ha
  by_cases q : 0 < a
  · rw [if_pos (show (0 : Int64) < lZ a from h.mpr q)]
    rw [if_pos q] at kk
    exact kk
  · rw [if_neg (show ¬ (0 : Int64) < lZ a from fun z => q (h.mp z)), lZ_neg]
    rw [if_neg q] at kk
    exact kk
end ZA
