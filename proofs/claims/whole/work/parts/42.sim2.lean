section SIM2
variable {B : Nat} {v : Nat → Nat} {s s' : Nat → Int32} {f f' : Nat → Nat → Int32}
theorem put_eq {f f' : Nat → Nat → Int32} {A A' j k : Nat} {x : Int32} (h : f' A' k = f A' k) : va_up f' A (upd (f' A) j x) A' k = va_up f A (upd (f A) j x) A' k := by
  by_cases e : A' = A
  · subst e
    rw [va_us, va_us]
    by_cases e2 : k = j
    · subst e2; rw [up_s, up_s]
    · rw [up_n e2, up_n e2]; exact h
  · rw [va_un e, va_un e]; exact h
theorem Rel.put (h : Rel B v s f s' f') {A j : Nat} {x : Int32} (hA : A = 0 ∨ A = 1 ∨ A = 6) (h6 : A = 6 → -3000 ≤ x.toInt ∧ x.toInt ≤ 3000) : Rel B v s (va_up f A (upd (f A) j x)) s' (va_up f' A (upd (f' A) j x)) := by
  obtain ⟨h1, h2, h3, h4, h5, h6', h7, h8, h9⟩ := h
  obtain ⟨p0, p1, p4, p6⟩ := h7
  refine ⟨h1, h2, h3, h4, ?_, ?_, ⟨fun k hk => put_eq (p0 k hk), fun k hk => put_eq (p1 k hk), fun hK k hk => put_eq (p4 hK k hk), fun k hk => put_eq (p6 k hk)⟩, ?_, fun k hk => put_eq (h9 k hk)⟩
  · rcases h5 with a | ⟨a1, a2, a3, a4, a5⟩
    · exact .inl a
    · exact .inr ⟨a1, a2, a3, a4, fun k hk => put_eq (a5 k hk)⟩
  · intro g hg hK
    obtain ⟨q1, q2, q3⟩ := h6' g hg hK
    rw [va_un (show 7 ≠ A by omega), va_un (show 7 ≠ A by omega), va_un (show 8 ≠ A by omega), va_un (show 8 ≠ A by omega), va_un (show 10 ≠ A by omega), va_un (show 10 + (v 19 - 1 - g) % 5 ≠ A by omega)]
    exact ⟨q1, q2, q3⟩
  · intro k hk
    by_cases e : 6 = A
    · subst e
      rw [va_us]
      by_cases e2 : k = j
      · subst e2; rw [up_s]; exact h6 rfl
      · rw [up_n e2]; exact h8 k hk
    · rw [va_un e]; exact h8 k hk
theorem sim_setReference (h : Rel B v s f s' f') (N N' : Nat) (k x : Int32) : (o_X4_setReference s f N k x).1 = (o_X5_setReference s' f' N' k x).1 ∧ Rel B v s (o_X4_setReference s f N k x).2 s' (o_X5_setReference s' f' N' k x).2 := by
  unfold o_X4_setReference o_X5_setReference
  rw [noS_if h]
  by_cases c1 : wIn k 0 (s 0 - 1) = 0
  · rw [if_pos c1, if_pos c1]; exact ⟨rfl, h⟩
  rw [if_neg c1, if_neg c1]
  by_cases c2 : wIn x (-1000000) 1000000 = 0
  · rw [if_pos c2, if_pos c2]; exact ⟨rfl, h⟩
  rw [if_neg c2, if_neg c2]
  exact ⟨(h.2.2.2.2.2.2.1.1 _ (h.ix c1).1).symm, h.put (.inl rfl) (fun z => absurd z (by decide))⟩
theorem sim_setInput (h : Rel B v s f s' f') (N N' : Nat) (k x : Int32) : (o_X4_setInput s f N k x).1 = (o_X5_setInput s' f' N' k x).1 ∧ Rel B v s (o_X4_setInput s f N k x).2 s' (o_X5_setInput s' f' N' k x).2 := by
  unfold o_X4_setInput o_X5_setInput
  rw [noS_if h, h.e 11 (by decide)]
  by_cases c0 : s 11 = 0
  case neg => rw [if_neg c0, if_neg c0]; exact ⟨rfl, h⟩
  rw [if_pos c0, if_pos c0]
  by_cases c1 : wIn k 0 (s 0 - 1) = 0
  · rw [if_pos c1, if_pos c1]; exact ⟨rfl, h⟩
  rw [if_neg c1, if_neg c1]
  by_cases c2 : wIn x (-1000000) 1000000 = 0
  · rw [if_pos c2, if_pos c2]; exact ⟨rfl, h⟩
  rw [if_neg c2, if_neg c2]
  exact ⟨(h.2.2.2.2.2.2.1.2.1 _ (h.ix c1).1).symm, h.put (.inr (.inl rfl)) (fun z => absurd z (by decide))⟩
theorem sim_setPlant (h : Rel B v s f s' f') (k x : Int32) : (o_X4_setPlant s f k x).1 = (o_X5_setPlant s' f' k x).1 ∧ Rel B v s (o_X4_setPlant s f k x).2 s' (o_X5_setPlant s' f' k x).2 := by
  unfold o_X4_setPlant o_X5_setPlant
  by_cases c1 : wIn k 0 5 = 0
  · rw [if_pos c1, if_pos c1]; exact ⟨rfl, h⟩
  rw [if_neg c1, if_neg c1]
  by_cases c2 : wIn x (-3000) 3000 = 0
  · rw [if_pos c2, if_pos c2]; exact ⟨rfl, h⟩
  rw [if_neg c2, if_neg c2]
  have hk := (wIn_ix (n := 5) (by decide) rfl c1).1
  obtain ⟨x1, x2⟩ := wIn_ne c2
  refine ⟨(h.2.2.2.2.2.2.1.2.2.2 _ (by omega)).symm, h.put (.inr (.inr rfl)) (fun _ => ⟨?_, ?_⟩)⟩
  · exact Int32.le_iff_toInt_le.mp x1
  · exact Int32.le_iff_toInt_le.mp x2
theorem rel_start (h : Rel B v s f s' f') : Rel (B + 1) (va_up (va_up v 12 0) 13 (v 13 + 1)) (staM s) f (staM s') f' := by
  obtain ⟨h1, h2, h3, h4, h5, h6, h7, h8, h9⟩ := h
  refine ⟨?_, fun i hi => ?_, fun _ => ?_, fun j hj => ?_, h5, h6, h7, h8, fun k hk => absurd hk (Nat.not_lt_zero k)⟩
  · unfold RV at h1 ⊢; simp [va_up]; omega
  · unfold staM
    by_cases e : i = 13
    · subst e; rw [up_s, vu_s, h2 13 rfl]; exact nI_1 _
    rw [up_n e, vu_n e]
    by_cases e2 : i = 12
    · subst e2; rw [up_s, vu_s]; rfl
    rw [up_n e2, vu_n e2]
    by_cases e3 : i = 11
    · subst e3; exact absurd hi (by decide)
    rw [up_n e3]; exact h2 i hi
  · unfold RV at h1; simp [va_up]; omega
  · unfold staM
    by_cases e : j = 13
    · subst e; rw [up_s, up_s, h4 13 (by decide)]
    rw [up_n e, up_n e]
    by_cases e2 : j = 12
    · subst e2; rw [up_s, up_s]
    rw [up_n e2, up_n e2]
    by_cases e3 : j = 11
    · subst e3; rw [up_s, up_s]
    rw [up_n e3, up_n e3]; exact h4 j hj
theorem sim_startTrial (h : Rel B v s f s' f') : (o_X4_startTrial s f).1 = (o_X5_startTrial s' f').1 ∧ ∃ v', Rel (B + 1) v' (o_X4_startTrial s f).2 f (o_X5_startTrial s' f').2 f' := by
  unfold o_X4_startTrial o_X5_startTrial
  rw [h.e 11 (by decide)]
  by_cases c : s 11 = 0
  · rw [if_pos c, if_pos c, h.e 13 (by decide)]
    refine ⟨rfl, va_up (va_up v 12 0) 13 (v 13 + 1), ?_⟩
    have R := rel_start h
    unfold staM at R
    rw [h.e 13 (by decide)] at R
    exact R
  · rw [if_neg c, if_neg c]
    exact ⟨rfl, v, h.mono (Nat.le_succ B)⟩
/-! suits -/
theorem mulb {x y : Int} (hx : 0 ≤ x ∧ x ≤ 2000) (hy : -3000 ≤ y ∧ y ≤ 3000) : -6000000 ≤ x * y ∧ x * y ≤ 6000000 := by
  have a := Int.mul_le_mul_of_nonneg_left hy.2 hx.1
  have b := Int.mul_le_mul_of_nonneg_left hy.1 hx.1
  omega
theorem mul64 {x y : Int32} (hx : 0 ≤ x.toInt ∧ x.toInt ≤ 2000) (hy : -3000 ≤ y.toInt ∧ y.toInt ≤ 3000) : Int32.toInt64 x * Int32.toInt64 y = Int32.toInt64 (x * y) ∧ -6000000 ≤ (x * y).toInt ∧ (x * y).toInt ≤ 6000000 := by
  have b := mulb hx hy
  have e : (x * y).toInt = x.toInt * y.toInt := by
    rw [Int32.toInt_mul]; exact Int.bmod_eq_of_le (by omega) (by omega)
  refine ⟨Int64.toInt_inj.mp ?_, by omega, by omega⟩
  rw [Int64.toInt_mul, Int32.toInt_toInt64, Int32.toInt_toInt64, Int32.toInt_toInt64, e]
  exact Int.bmod_eq_of_le (by omega) (by omega)
theorem labs64 {w : Int32} (h : -10000000 ≤ w.toInt ∧ w.toInt ≤ 10000000) : labs (Int32.toInt64 w) = Int32.toInt64 (iabs w) := by
  unfold labs iabs
  have e0 : (0 : Int64).toInt = 0 := by decide
  have e1 : (0 : Int32).toInt = 0 := by decide
  by_cases c : w < 0
  · rw [if_pos c]
    have c' := Int32.lt_iff_toInt_lt.mp c
    rw [if_neg (fun z => by
      have := Int64.lt_iff_toInt_lt.mp z
      rw [Int32.toInt_toInt64] at this
      omega)]
    refine Int64.toInt_inj.mp ?_
    rw [Int64.toInt_neg, Int32.toInt_toInt64, Int32.toInt_toInt64, Int32.toInt_neg, Int.bmod_eq_of_le (by omega) (by omega), Int.bmod_eq_of_le (by omega) (by omega)]
  · rw [if_neg c]
    have c' : ¬ w.toInt < 0 := fun z => c (Int32.lt_iff_toInt_lt.mpr (by omega))
    by_cases d : (0 : Int64) < Int32.toInt64 w
    · rw [if_pos d]
    · rw [if_neg d]
      have d' : w.toInt = 0 := by
        have : ¬ (0 : Int64).toInt < (Int32.toInt64 w).toInt := fun z => d (Int64.lt_iff_toInt_lt.mpr z)
        rw [Int32.toInt_toInt64] at this
        omega
      have : w = 0 := Int32.toInt_inj.mp (by rw [d', e1])
      rw [this]
      decide
theorem sub64 {w : Int32} (h : -6000000 ≤ w.toInt ∧ w.toInt ≤ 6000000) : 1000000 - Int32.toInt64 w = Int32.toInt64 (1000000 - w) ∧ -10000000 ≤ (1000000 - w).toInt ∧ (1000000 - w).toInt ≤ 10000000 := by
  have e1 : (1000000 : Int32).toInt = 1000000 := by decide
  have e2 : (1000000 : Int64).toInt = 1000000 := by decide
  have e : (1000000 - w).toInt = 1000000 - w.toInt := by
    rw [Int32.toInt_sub, e1]; exact Int.bmod_eq_of_le (by omega) (by omega)
  refine ⟨Int64.toInt_inj.mp ?_, by omega, by omega⟩
  rw [Int64.toInt_sub, e2, Int32.toInt_toInt64, Int32.toInt_toInt64, e]
  exact Int.bmod_eq_of_le (by omega) (by omega)
theorem gn_bd {x : Int32} {n : Nat} (e : x = nI n) (h : n ≤ 2000) : 0 ≤ x.toInt ∧ x.toInt ≤ 2000 := by
  rw [e, nI_toInt (by omega)]; omega
theorem sim_suits (h : Rel B v s f s' f') : o_X4_suits s f (v 2) = o_X5_suits s' f' (v 2) := by
  unfold o_X4_suits o_X4_suits_4 o_X5_suits o_X5_suits_4
  have hv := h.1
  unfold RV at hv
  have g := gn_bd (h.n 1 rfl) hv.2.1
  have p6 := h.2.2.2.2.2.2.1.2.2.2
  have pl := h.2.2.2.2.2.2.2.1
  rw [h.e 1 (by decide)]
  have es : (sumL (fun y => if y = v 2 then 0 else Int32.toInt64 (iabs (s 1 * f' 6 y))) 6) = sumL (fun y => if y = v 2 then 0 else labs (Int32.toInt64 (s 1) * Int32.toInt64 (f 6 y))) 6 := by
    refine sumL_congr (fun y hy => ?_)
    have m := mul64 g (pl y hy)
    rw [p6 y hy, m.1, labs64 (by omega)]
  rw [es]
  have e0 : labs (1000000 - Int32.toInt64 (s 1) * Int32.toInt64 0) = Int32.toInt64 (iabs (1000000 - 0)) := by
    have m := mul64 g (y := 0) (by decide)
    rw [m.1, (sub64 m.2).1, labs64 (sub64 m.2).2]
    rw [show s 1 * 0 = 0 from Int32.mul_zero]
  rw [e0]
  by_cases c : 6 ≤ nI (v 2)
  · rw [if_pos c, if_pos c]
    exact if_if (fun _ => rfl) (fun _ => rfl)
  · rw [if_neg c, if_neg c]
    have hd : v 2 < 6 := Nat.lt_of_not_le (fun z => c (nI_le (a := 6) z (by omega)))
    have m := mul64 g (pl _ hd)
    rw [p6 _ hd, m.1, (sub64 m.2).1, labs64 (sub64 m.2).2]
    exact if_if (fun _ => rfl) (fun _ => rfl)
/-! as at first -/
def v0 (n : Nat) : Nat → Nat := fun i => if i = 0 then n else if i = 1 then 500 else if i = 4 then 1 else if i = 5 then 1000000 else if i = 6 then 4 else if i = 9 then 2 else 0
theorem rel_init (B n : Nat) (h4 : 4 ≤ n) (h48 : n ≤ 48) (s s' : Nat → Int32) (f f' : Nat → Nat → Int32) : Rel B (v0 n) (o_X4_startAnew s f (nI n)).1 (o_X4_startAnew s f (nI n)).2 (o_X5_begin s' f' (nI n)).1 (o_X5_begin s' f' (nI n)).2 := by
  refine ⟨⟨⟨h4, h48⟩, (show 500 ≤ 2000 by decide), (show 0 ≤ 8 by decide), (show 0 ≤ 333 by decide), (show 1 ≤ 4 by decide), (show 1 ≤ 1000000 ∧ 1000000 ≤ 1000000 by decide), (show 1 ≤ 4 ∧ 4 ≤ 10 by decide), (show 0 ≤ 5 by decide), (show 1 ≤ 2 ∧ 2 ≤ 5 by decide), Nat.zero_le _, (show 0 ≤ 1000 by decide), Nat.zero_le _, Nat.zero_le _⟩, fun i hi => ?_, fun z => absurd rfl z, fun j hj => ?_, .inl ⟨rfl, rfl⟩, fun A _ hK => absurd hK (Nat.not_lt_zero A), ⟨fun k hk => ?_, fun k hk => ?_, fun hK => absurd hK (Nat.lt_irrefl 0), fun k hk => ?_⟩, fun k hk => ?_, fun k hk => absurd hk (Nat.not_lt_zero k)⟩
  · unfold ixB at hi
    simp only [Bool.or_eq_true, beq_iff_eq] at hi
    rcases hi with ((((((((((((e | e) | e) | e) | e) | e) | e) | e) | e) | e) | e) | e) | e) <;> subst e <;> rfl
  · have e : j = 0 ∨ j = 1 ∨ j = 2 ∨ j = 3 ∨ j = 4 ∨ j = 5 ∨ j = 6 ∨ j = 7 ∨ j = 8 ∨ j = 9 ∨ j = 10 ∨ j = 11 ∨ j = 12 ∨ j = 13 ∨ j = 14 ∨ j = 15 ∨ j = 16 ∨ j = 17 ∨ j = 18 ∨ j = 19 := by omega
    rcases e with e | e | e | e | e | e | e | e | e | e | e | e | e | e | e | e | e | e | e | e <;> subst e <;> rfl
  · have hk' : k < 48 := Nat.lt_of_lt_of_le hk h48
    show pfx 48 (fun _ => (0 : Int32)) _ k = pfx 48 (fun _ => (0 : Int32)) _ k
    rw [pfx_lt _ _ hk', pfx_lt _ _ hk']
  · have hk' : k < 48 := Nat.lt_of_lt_of_le hk h48
    show pfx 48 (fun _ => (0 : Int32)) _ k = pfx 48 (fun _ => (0 : Int32)) _ k
    rw [pfx_lt _ _ hk', pfx_lt _ _ hk']
  · show pfx 6 (fun y => if y = 0 then (1000 : Int32) else 0) (f' 6) k = upd (pfx 6 (fun _ => 0) (f 6)) 0 1000 k
    rw [pfx_lt _ _ hk]
    by_cases e : k = 0
    · subst e; rfl
    · rw [if_neg e, up_n e, pfx_lt _ _ hk]
  · show -3000 ≤ (upd (pfx 6 (fun _ => 0) (f 6)) 0 1000 k).toInt ∧ (upd (pfx 6 (fun _ => 0) (f 6)) 0 1000 k).toInt ≤ 3000
    by_cases e : k = 0
    · subst e; rw [up_s]; decide
    · rw [up_n e, pfx_lt _ _ hk]; decide
theorem sim_reset (h : Rel B v s f s' f') (q : Int32) : (o_X4_reset s f q).1 = (o_X5_reset s' f' q).1 ∧ ∃ v', Rel B v' (o_X4_reset s f q).2.1 (o_X4_reset s f q).2.2 (o_X5_reset s' f' q).2.1 (o_X5_reset s' f' q).2.2 := by
  unfold o_X4_reset o_X5_reset
  by_cases c : wIn q 4 48 = 0
  · rw [if_pos c, if_pos c]; exact ⟨rfl, v, h⟩
  · rw [if_neg c, if_neg c]
    obtain ⟨⟨q1, q2⟩, q3⟩ := wIn_lo (a := 4) (b := 48) (by decide) (by decide) c
    have R := rel_init B _ q1 q2 s s' f f'
    rw [← q3] at R
    exact ⟨(h.e 0 (by decide)).symm, _, R⟩
theorem rel_first : Rel 0 (v0 16) xS0 xF0 mS0 mF0 := rel_init 0 16 (by decide) (by decide) _ _ _ _
end SIM2
