def rwL {S : Type} (D : va_G) (post : Int → S → Prop) (wf : S → va_W) (A : Nat → Prop) : Array Value → State → Outcome → State → Prop := va_Ql (fun r u => ∃ z : Int, r = lZ z ∧ post z u) (fun u t => va_P D vwCl (wf u) t.heap ∧ va_D A (wf u)) A
section ZL
variable {p : Program} {l : Launch} {e : Env} {R : Room} {s : State} {m : MethodId} {args : Array Value} {below : List Frame} {meth : Method} {c : Code} {H : Heap} {locs : List Loc} {cells slots : Nat} {Q : State → Prop}
variable {cc : ByteArray} {pc : Nat} {ls : Array Slot} {rest st0 : List Value} {D : va_G} {ws : va_W} {A : Nat → Prop} {H0 : Heap} {av : Array Value}
theorem rw_lret {S : Type} {post : Int → S → Prop} {wf : S → va_W} {z : Int} (u : S) (hx : p.tables.exec = Jvm.exec) (hb : c.code = cc) (hr : meth.sig.returnType = some .long) (hlocks : meth.locks = false) (hP : va_P D vwCl (wf u) H) (hD : va_D A (wf u)) (hS : va_S A s.heap H locs) (hp : post z u) (hdg : decode cc pc = .ok (.lreturn, 1)) : W p l e R s m args below meth c H locs cells slots (MQ below (rwL D post wf A) args s cells slots A) (F0 m pc ls [.long (lZ z)]) := W.lret hx hb hr (fun _ ht _ => ⟨⟨_, u, rfl, ⟨z, rfl, hp⟩, by rw [ht]; exact hP, hD⟩, hS.F ht⟩) hS.2.2 hdg hlocks
theorem rw_l {S : Type} {post : Int → S → Prop} {wf : S → va_W} {wc wr : va_W} {mc ms : Nat} (hr : va_Run p l e R s m args below meth c H locs cells slots mc ms (F0 m pc ls st0) rest (rwL D post wf (va_A wc H.size) av) (va_A wc H.size)) (hP : va_P D vwCl ws H) (hD : va_D A ws) (hS : va_S A H0 H locs) (hA : ∀ q, H0.size ≤ q → A q) (isC isR : List Nat) (hC : isC.map (fun i => ws[i]?) = wc.map some) (hR : isR.map (fun i => ws[i]?) = wr.map some) (hn : va_nd isR = true) (hdis : ∀ i ∈ isR, i ∉ isC)
    (kk : ∀ (z : Int) (u : S) (H1 : Heap) (locs1 : List Loc), post z u → va_P D vwCl (wr ++ wf u) H1 → va_D A (wr ++ wf u) → va_S A H0 H1 locs1 → W p l e R s m args below meth c H1 locs1 (cells + mc) (slots + ms) Q (F0 m (pc + 3) ls (.long (lZ z) :: rest))) : W p l e R s m args below meth c H locs cells slots Q (F0 m pc ls st0) := by
  have hF := va_free hD hS hA isC hC
  refine va_calll hr hS (fun q _ h => hF q h) hF (fun r u t H1 locs1 ht hvm hp hB hz hk hS1 => ?_)
  obtain ⟨hP1, hD1⟩ := hB
  obtain ⟨z, rfl, hp⟩ := hp
  rw [ht] at hP1
  obtain ⟨hP2, hD2⟩ := va_join hP hD isC isR hC hR hn hdis hk hF hP1 hD1
  exact kk z u H1 locs1 hp hP2 hD2 hS1
end ZL
theorem so_step {E : Ed} {N U i t : Nat} {g f : Nat → Int} {sv : Int} (h1 : t < N) (h2 : E U t = true) (h3 : fb_ct (E U) t = i) (h : ∀ v, v < N → g v = f v + (if E U v = true ∧ fb_ct (E U) v < i then sv else 0)) : ∀ v, v < N → uZ g t (g t + sv) v = f v + (if E U v = true ∧ fb_ct (E U) v < i + 1 then sv else 0) := by
  intro v hv
  by_cases e : v = t
  · subst e
    rw [uZ_s, h v hv, if_neg (by omega), if_pos ⟨h2, by omega⟩]
    omega
  · rw [uZ_n e, h v hv]
    by_cases q : E U v = true ∧ fb_ct (E U) v < i
    · rw [if_pos q, if_pos ⟨q.1, by omega⟩]
    · rw [if_neg q, if_neg]
      rintro ⟨q1, q2⟩
      by_cases q3 : fb_ct (E U) v < i
      · exact q ⟨q1, q3⟩
      · exact e (fb_ct_kth_one q1 h2 (by omega))
theorem so_end {E : Ed} {N U : Nat} {g f : Nat → Int} {sv : Int} (h : ∀ v, v < N → g v = f v + (if E U v = true ∧ fb_ct (E U) v < dgr E N U then sv else 0)) : ∀ v, v < N → g v = f v + (if E U v = true then sv else 0) := by
  intro v hv
  rw [h v hv]
  by_cases q : E U v = true
  · rw [if_pos ⟨q, row_in q hv⟩, if_pos q]
  · rw [if_neg (fun z => q z.1), if_neg q]
theorem er_le {Er P Q : Nat} (h : Er ≤ 8589934592) (hPQ : P < Q) : Er * P / Q + 1 ≤ 8589934592 := by
  rcases Nat.eq_zero_or_pos Er with q | q
  · subst q
    simp
  · have h1 : Er * P < Er * Q := Nat.mul_lt_mul_of_pos_left hPQ q
    have h2 : Er * P / Q < Er := Nat.div_lt_of_lt_mul (by rw [Nat.mul_comm Q Er]; exact h1)
    omega
