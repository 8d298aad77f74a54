section SIM4
variable {B : Nat} {v : Nat → Nat} {s s' : Nat → Int32} {f f' g g' : Nat → Nat → Int32} {K d b mm G : Nat}
theorem vself {v : Nat → Nat} {i : Nat} : va_up v i (v i) = v := funext fun j => by
  by_cases e : j = i
  · subst e; rw [vu_s]
  · rw [vu_n e]
theorem vuu {v : Nat → Nat} {i a c : Nat} : va_up (va_up v i a) i c = va_up v i c := funext fun j => by
  by_cases e : j = i
  · subst e; rw [vu_s, vu_s]
  · rw [vu_n e, vu_n e, vu_n e]
theorem half_nI {a : Nat} (h : a ≤ 2000) : nI a / 2 = nI (a / 2) := pk_div (a := a) (d := 2) (by omega) (by decide) (by decide)
theorem nI_sub1 {a : Nat} (h : 1 ≤ a) : nI a - 1 = nI (a - 1) := by
  have e : nI a = nI (a - 1) + 1 := (congrArg nI (show a = a - 1 + 1 by omega)).trans (nI_1 (a - 1)).symm
  rw [e]
  exact Int32.add_sub_cancel _ _
theorem Rel.rt (h : Rel B v s f s' f') : RT (v 0) (v 19) (v 12) s f s' f' := h.2.2.2
theorem Rel.one (h : Rel B v s f s' f') (hg : ∀ j, j ≠ 1 → j ≠ 2 → j ≠ 5 → g j = f j) (hg' : ∀ j, j ≠ 1 → j ≠ 2 → j ≠ 5 → g' j = f' j) (h1 : ∀ k, k < v 0 → g' 1 k = g 1 k) : Rel B v s g s' g' := ⟨h.1, h.2.1, h.2.2.1, h.rt.one hg hg' h1⟩
theorem Rel.seed (h : Rel B v s f s' f') (x : Int32) : Rel B v (upd s 18 x) f (upd s' 18 x) f' := by
  have R := h.set (i := 18) (n := v 18) (x := x) (by decide) (fun z => absurd z (by decide)) (by rw [vself]; exact h.1)
  rw [vself] at R
  exact R
theorem step_lt (h : Rel B v s f s' f') (hc : v 12 + 1 < v 0) (hr : ¬ s 11 = 0) (x : Int32) : Rel B (va_up v 12 (v 12 + 1)) (upd s 12 (nI (v 12 + 1))) (va_up f 3 (upd (f 3) (v 12) x)) (upd s' 12 (nI (v 12 + 1))) (va_up f' 3 (upd (f' 3) (v 12) x)) := by
  have P := RT.put3 (x := x) h.rt
  refine ⟨?_, fun i hi => ?_, fun _ => ⟨hc, (h.2.2.1 hr).2⟩, fun j hj => ?_, P.2.1, P.2.2.1, P.2.2.2.1, P.2.2.2.2.1, P.2.2.2.2.2⟩
  · have hv := h.1
    unfold RV at hv ⊢; simp [va_up]; omega
  · by_cases e : i = 12
    · subst e; rw [up_s, vu_s]
    · rw [up_n e, vu_n e]; exact h.2.1 i hi
  · by_cases e : j = 12
    · subst e; rw [up_s, up_s]
    · rw [up_n e, up_n e]; exact h.e j hj
theorem step_ge (h : Rel B v s f s' f') (hc : ¬ v 12 + 1 < v 0) (hr : ¬ s 11 = 0) (hB : B + 1 < 1000000) (x : Int32) : ∃ g0, Rel (B + 1) (va_up (va_up (va_up v 12 (v 12 + 1)) 19 (v 19 + 1)) 1 g0) (o_X4_completeTrial (upd s 12 (nI (v 12 + 1))) (va_up f 3 (upd (f 3) (v 12) x)) (v 0) (v 19) d b mm G).1 (o_X4_completeTrial (upd s 12 (nI (v 12 + 1))) (va_up f 3 (upd (f 3) (v 12) x)) (v 0) (v 19) d b mm G).2 (o_X5_finish (upd (upd s' 12 (nI (v 12 + 1))) 11 0) (va_up f' 3 (upd (f' 3) (v 12) x)) (v 0) (v 19) d b mm G).1 (o_X5_finish (upd (upd s' 12 (nI (v 12 + 1))) 11 0) (va_up f' 3 (upd (f' 3) (v 12) x)) (v 0) (v 19) d b mm G).2 := by
  have hrun := h.2.2.1 hr
  have hv := h.1
  unfold RV at hv
  have e : v 12 + 1 = v 0 := by omega
  have P := RT.put3 (x := x) h.rt
  have P' : RT (v 0) (v 19) (v 0) (upd (upd s 12 (nI (v 12 + 1))) 11 0) (va_up f 3 (upd (f 3) (v 12) x)) (upd (upd s' 12 (nI (v 12 + 1))) 11 0) (va_up f' 3 (upd (f' 3) (v 12) x)) := by
    refine ⟨fun j hj => ?_, P.2.1, P.2.2.1, P.2.2.2.1, P.2.2.2.2.1, fun k hk => P.2.2.2.2.2 k (by omega)⟩
    by_cases e1 : j = 11
    · subst e1; rw [up_s, up_s]
    rw [up_n e1, up_n e1]
    by_cases e2 : j = 12
    · subst e2; rw [up_s, up_s]
    rw [up_n e2, up_n e2]; exact h.e j hj
  obtain ⟨E, hg⟩ := end_rel (s := upd s 12 (nI (v 12 + 1))) (d := d) (b := b) (mm := mm) (G := G) hv.1.1 hv.1.2 (h.n 19 rfl) (by omega) (by
    rw [up_n (show 13 ≠ 12 by decide), h.n 13 rfl, nI_sub1 hrun.2]
    exact nI_pos' (by omega)) rfl P'
  have hg' : ∃ g0, (o_X4_completeTrial (upd s 12 (nI (v 12 + 1))) (va_up f 3 (upd (f 3) (v 12) x)) (v 0) (v 19) d b mm G).1 1 = nI g0 ∧ g0 ≤ 2000 := by
    rcases hg with hg | hg
    · exact ⟨v 1, hg.trans (h.n 1 rfl), hv.2.1⟩
    · refine ⟨v 1 / 2, hg.trans ?_, by omega⟩
      rw [up_n (show 1 ≠ 12 by decide), h.n 1 rfl]
      exact half_nI hv.2.1
  obtain ⟨g0, hg1, hg2⟩ := hg'
  refine ⟨g0, ?_, fun i hi => ?_, fun z => absurd ((ct_s _ _ _ _ _ _ _ _ (by decide) (by decide)).trans rfl) z, E.1, E.2.1, E.2.2.1, E.2.2.2.1, E.2.2.2.2.1, fun k hk => ?_⟩
  · unfold RV; simp [va_up]; omega
  · by_cases e1 : i = 1
    · subst e1; rw [vu_s]; exact hg1
    rw [vu_n e1]
    have n16 : i ≠ 16 := fun z => by subst z; exact absurd hi (by decide)
    have n20 : i ≠ 20 := fun z => by subst z; exact absurd hi (by decide)
    have n21 : i ≠ 21 := fun z => by subst z; exact absurd hi (by decide)
    have n22 : i ≠ 22 := fun z => by subst z; exact absurd hi (by decide)
    have n15 : i ≠ 15 := fun z => by subst z; exact absurd hi (by decide)
    have n11 : i ≠ 11 := fun z => by subst z; exact absurd hi (by decide)
    rw [ct_s _ _ _ _ _ _ _ _ ⟨n16, n20, n21, n22⟩ ⟨e1, n15⟩]
    by_cases e2 : i = 19
    · subst e2; rw [up_s, vu_s]
    rw [up_n e2, vu_n e2, up_n n11]
    by_cases e3 : i = 12
    · subst e3; rw [up_s, vu_s]
    rw [up_n e3, vu_n e3]; exact h.2.1 i hi
  · have hk : k < v 12 + 1 := hk
    exact E.2.2.2.2.2 k (by omega)
theorem sim_record (h : Rel B v s f s' f') (hB : B + 1 < 1000000) (x : Int32) : (o_X4_record s f (v 0) (v 19) d b mm G (v 12) x).1 = (o_X5_record s' f' (v 0) (v 19) d b mm G (v 12) x).1 ∧ ∃ v', Rel (B + 1) v' (o_X4_record s f (v 0) (v 19) d b mm G (v 12) x).2.1 (o_X4_record s f (v 0) (v 19) d b mm G (v 12) x).2.2 (o_X5_record s' f' (v 0) (v 19) d b mm G (v 12) x).2.1 (o_X5_record s' f' (v 0) (v 19) d b mm G (v 12) x).2.2 := by
  have hv := h.1
  unfold RV at hv
  unfold o_X4_record o_X5_record
  rw [h.e 11 (by decide)]
  by_cases c0 : s 11 = 0
  · rw [if_pos c0, if_pos c0]; exact ⟨rfl, v, h.mono (Nat.le_succ B)⟩
  rw [if_neg c0, if_neg c0]
  by_cases c1 : wIn x (-1000000) 1000000 = 0
  · rw [if_pos c1, if_pos c1]; exact ⟨rfl, v, h.mono (Nat.le_succ B)⟩
  rw [if_neg c1, if_neg c1]
  have hrun := h.2.2.1 c0
  by_cases c2 : v 12 + 1 < v 0
  · rw [tk_lt hv.1.2 c2, if_neg (show ¬ upd s 12 (nI (v 12 + 1)) 11 = 0 from c0), if_neg (show ¬ nI (v 0) ≤ nI (v 12 + 1) from fun z => by have := (nI_leI (by omega) (by omega)).mp z; omega)]
    exact ⟨(h.2.2.2.2.2.2.1.2.1 _ c2).symm, va_up v 12 (v 12 + 1), (step_lt h c2 c0 x).mono (Nat.le_succ B)⟩
  · have z : (o_X4_completeTrial (upd s 12 (nI (v 12 + 1))) (va_up f 3 (upd (f 3) (v 12) x)) (v 0) (v 19) d b mm G).1 11 = 0 := (ct_s _ _ _ _ _ _ _ _ (by decide) (by decide)).trans rfl
    rw [tk_ge hv.1.2 hrun.1 c2, if_pos z, if_pos (show nI (v 0) ≤ nI (v 12 + 1) from nI_le (by omega) (by omega))]
    obtain ⟨g0, R⟩ := step_ge (d := d) (b := b) (mm := mm) (G := G) h c2 c0 hB x
    exact ⟨rfl, _, R⟩
theorem sim_abort (h : Rel B v s f s' f') : (o_X4_abort s f (v 0) (v 12) d b mm).1 = (o_X5_abort s' f' (v 0) (v 12) d b mm).1 ∧ ∃ v', Rel B v' (o_X4_abort s f (v 0) (v 12) d b mm).2.1 (o_X4_abort s f (v 0) (v 12) d b mm).2.2 (o_X5_abort s' f' (v 0) (v 12) d b mm).2.1 (o_X5_abort s' f' (v 0) (v 12) d b mm).2.2 := by
  have hv := h.1
  unfold RV at hv
  unfold o_X4_abort o_X5_abort o_X5_abort_27 o_X4_learnFromPart o_X4_learnFromPart_2
  rw [h.e 11 (by decide)]
  by_cases c0 : s 11 = 0
  · rw [if_pos c0, if_pos c0]; exact ⟨rfl, v, h⟩
  rw [if_neg c0, if_neg c0]
  have R1 : Rel B v (upd (upd s 11 0) 14 (s 14 + 1)) f (upd (upd s' 11 0) 14 (s' 14 + 1)) f' := by
    refine ⟨h.1, fun i hi => ?_, fun z => absurd rfl z, fun j hj => ?_, h.2.2.2.2.1, h.2.2.2.2.2⟩
    · have n14 : i ≠ 14 := fun z => by subst z; exact absurd hi (by decide)
      have n11 : i ≠ 11 := fun z => by subst z; exact absurd hi (by decide)
      rw [up_n n14, up_n n11]; exact h.2.1 i hi
    · by_cases e1 : j = 14
      · subst e1; rw [up_s, up_s, h.e 14 (by decide)]
      rw [up_n e1, up_n e1]
      by_cases e2 : j = 11
      · subst e2; rw [up_s, up_s]
      rw [up_n e2, up_n e2]; exact h.e j hj
  by_cases c1 : nI (v 12) ≤ 0
  · rw [if_pos c1, if_pos c1]
    exact ⟨rfl, v, R1.one (fun _ _ _ _ => rfl) (fun _ _ _ j5 => va_un j5) (fun k hk => by
      show va_up f' 5 (pfx (v 12) (peF f') (f' 5)) 1 k = f 1 k
      rw [va_un (show 1 ≠ 5 by decide)]; exact h.2.2.2.2.2.2.1.2.1 k hk)⟩
  · rw [if_neg c1, if_neg c1]
    have R2 : Rel B v (upd (upd s 11 0) 14 (s 14 + 1)) (va_up f 5 (pfx (v 12) (peF f) (f 5))) (upd (upd s' 11 0) 14 (s' 14 + 1)) (va_up f' 5 (pfx (v 12) (peF f') (f' 5))) := R1.one (fun _ _ _ j5 => va_un j5) (fun _ _ _ j5 => va_un j5) (fun k hk => by
      rw [va_un (show 1 ≠ 5 by decide), va_un (show 1 ≠ 5 by decide)]; exact h.2.2.2.2.2.2.1.2.1 k hk)
    refine ⟨rfl, v, R2.1, R2.2.1, R2.2.2.1, learn_rel hv.1.1 (by omega) R2.rt (fun k hk => ?_)⟩
    rw [va_us, va_us, pfx_lt _ _ hk, pfx_lt _ _ hk]
    unfold peF
    rw [h.2.2.2.2.2.2.1.1 k (by omega), h.2.2.2.2.2.2.2.2 k hk]
/-! simulated trials -/
theorem Rel.sd (h : Rel B v s f s' f') : sdF s' = sdF s := by
  unfold sdF
  rw [h.e 17 (by decide), h.e 18 (by decide)]
theorem Rel.ds (h : Rel B v s f s' f') : dsF s' = dsF s := by
  unfold dsF
  rw [h.sd, h.e 17 (by decide)]
theorem Rel.out (h : Rel B v s f s' f') {j : Nat} (hj : j < v 0) : outF f' j = outF f j := by
  have e : (sumL (fun y => Int32.toInt64 (f' 6 y) * Int32.toInt64 (f' 1 (j - y))) (min j 5 + 1)) = sumL (fun y => Int32.toInt64 (f 6 y) * Int32.toInt64 (f 1 (j - y))) (min j 5 + 1) :=
    sumL_congr (fun y hy => by rw [h.2.2.2.2.2.2.1.2.2.2 y (by omega), h.2.2.2.2.2.2.1.2.1 (j - y) (by omega)])
  unfold outF
  rw [e]
theorem stp_lt {u w : (Nat → Int32) × (Nat → Nat → Int32)} (h : Rel B v u.1 u.2 w.1 w.2) (hr : ¬ u.1 11 = 0) (hc : v 12 + 1 < v 0) : Rel B (va_up v 12 (v 12 + 1)) (stpF (v 0) K d b mm G (v 12) u).1 (stpF (v 0) K d b mm G (v 12) u).2 (stmF (v 0) K d b mm G (v 12) w).1 (stmF (v 0) K d b mm G (v 12) w).2 := by
  have hv := h.1
  unfold RV at hv
  unfold stpF stmF
  rw [h.sd, h.ds, h.out (by omega)]
  rw [tk_lt hv.1.2 hc, rec_lt hv.1.2 (show ¬ upd w.1 18 (sdF u.1) 11 = 0 from fun z => hr ((h.e 11 (by decide)).symm.trans z)) hc]
  exact step_lt (h.seed (sdF u.1)) hc hr _
theorem stp_ge {u w : (Nat → Int32) × (Nat → Nat → Int32)} (h : Rel B v u.1 u.2 w.1 w.2) (hr : ¬ u.1 11 = 0) (hc : ¬ v 12 + 1 < v 0) (hB : B + 1 < 1000000) : ∃ g0, Rel (B + 1) (va_up (va_up (va_up v 12 (v 12 + 1)) 19 (v 19 + 1)) 1 g0) (stpF (v 0) (v 19) d b mm G (v 12) u).1 (stpF (v 0) (v 19) d b mm G (v 12) u).2 (stmF (v 0) (v 19) d b mm G (v 12) w).1 (stmF (v 0) (v 19) d b mm G (v 12) w).2 := by
  have hv := h.1
  unfold RV at hv
  have hrun := h.2.2.1 hr
  unfold stpF stmF
  rw [h.sd, h.ds, h.out hrun.1]
  rw [tk_ge hv.1.2 hrun.1 hc, rec_ge hv.1.2 (show ¬ upd w.1 18 (sdF u.1) 11 = 0 from fun z => hr ((h.e 11 (by decide)).symm.trans z)) hrun.1 hc]
  exact step_ge (h.seed (sdF u.1)) hc hr hB _
theorem sim_lt (h : Rel B v s f s' f') (hr : ¬ s 11 = 0) (h0 : v 12 = 0) : ∀ i, i < v 0 → Rel B (va_up v 12 i) (simF s f (v 0) K d b mm G i).1 (simF s f (v 0) K d b mm G i).2 (simM s' f' (v 0) K d b mm G i).1 (simM s' f' (v 0) K d b mm G i).2 := by
  have hv := h.1
  unfold RV at hv
  intro i
  induction i with
  | zero =>
    intro _
    rw [(congrArg (va_up v 12) h0.symm).trans vself]
    exact h
  | succ i ih =>
    intro hi
    have R := ih (by omega)
    have t : Rel B (va_up (va_up v 12 i) 12 (i + 1)) (stpF (v 0) K d b mm G i (simF s f (v 0) K d b mm G i)).1 (stpF (v 0) K d b mm G i (simF s f (v 0) K d b mm G i)).2 (stmF (v 0) K d b mm G i (simM s' f' (v 0) K d b mm G i)).1 (stmF (v 0) K d b mm G i (simM s' f' (v 0) K d b mm G i)).2 :=
      stp_lt R (by rw [sim_s hv.1.2 (by decide) i (by omega)]; exact hr) hi
    rw [vuu] at t
    exact t
theorem sim_end (h : Rel B v s f s' f') (hr : ¬ s 11 = 0) (h0 : v 12 = 0) (hB : B + 1 < 1000000) : ∃ g0, Rel (B + 1) (va_up (va_up (va_up v 12 (v 0)) 19 (v 19 + 1)) 1 g0) (simF s f (v 0) (v 19) d b mm G (v 0)).1 (simF s f (v 0) (v 19) d b mm G (v 0)).2 (simM s' f' (v 0) (v 19) d b mm G (v 0)).1 (simM s' f' (v 0) (v 19) d b mm G (v 0)).2 := by
  have hv := h.1
  unfold RV at hv
  obtain ⟨n, hn⟩ : ∃ n, v 0 = n + 1 := ⟨v 0 - 1, by omega⟩
  have R := sim_lt (K := v 19) (d := d) (b := b) (mm := mm) (G := G) h hr h0 n (by omega)
  have t : ∃ g0, Rel (B + 1) (va_up (va_up (va_up (va_up v 12 n) 12 (n + 1)) 19 (v 19 + 1)) 1 g0) (stpF (v 0) (v 19) d b mm G n (simF s f (v 0) (v 19) d b mm G n)).1 (stpF (v 0) (v 19) d b mm G n (simF s f (v 0) (v 19) d b mm G n)).2 (stmF (v 0) (v 19) d b mm G n (simM s' f' (v 0) (v 19) d b mm G n)).1 (stmF (v 0) (v 19) d b mm G n (simM s' f' (v 0) (v 19) d b mm G n)).2 :=
    stp_ge R (by rw [sim_s hv.1.2 (by decide) n (by omega)]; exact hr) (show ¬ n + 1 < v 0 by omega) hB
  obtain ⟨g0, t⟩ := t
  rw [vuu] at t
  have a1 : stpF (v 0) (v 19) d b mm G n (simF s f (v 0) (v 19) d b mm G n) = simF s f (v 0) (v 19) d b mm G (v 0) := by
    rw [show simF s f (v 0) (v 19) d b mm G (v 0) = simF s f (v 0) (v 19) d b mm G (n + 1) from congrArg _ hn]; rfl
  have a2 : stmF (v 0) (v 19) d b mm G n (simM s' f' (v 0) (v 19) d b mm G n) = simM s' f' (v 0) (v 19) d b mm G (v 0) := by
    rw [show simM s' f' (v 0) (v 19) d b mm G (v 0) = simM s' f' (v 0) (v 19) d b mm G (n + 1) from congrArg _ hn]; rfl
  rw [a1, a2, ← hn] at t
  exact ⟨g0, t⟩
theorem tri_rel (h : Rel B v s f s' f') (hB : B + 2 < 1000000) : ∃ v', Rel (B + 2) v' (o_X4_simulateTrial s f (v 0) (v 19) d b mm G).1 (o_X4_simulateTrial s f (v 0) (v 19) d b mm G).2 (simM (staM s') f' (v 0) (v 19) d b mm G (v 0)).1 (simM (staM s') f' (v 0) (v 19) d b mm G (v 0)).2 ∧ v' 0 = v 0 ∧ v' 19 = v 19 + 1 := by
  obtain ⟨g0, R⟩ := sim_end (d := d) (b := b) (mm := mm) (G := G) (rel_start h) (show ¬ (1 : Int32) = 0 by decide) rfl (by omega)
  exact ⟨_, R, rfl, rfl⟩
theorem tris_rel (h : Rel B v s f s' f') : ∀ i, B + 2 * i + 2 < 1000000 → ∃ v', Rel (B + 2 * i) v' (triF s f (v 0) (v 19) d b mm G i).1 (triF s f (v 0) (v 19) d b mm G i).2 (triM s' f' (v 0) (v 19) d b mm G i).1 (triM s' f' (v 0) (v 19) d b mm G i).2 ∧ v' 0 = v 0 ∧ v' 19 = v 19 + i := by
  intro i
  induction i with
  | zero => intro _; exact ⟨v, h, rfl, rfl⟩
  | succ i ih =>
    intro hB
    obtain ⟨v1, R, e0, e19⟩ := ih (by omega)
    obtain ⟨v2, R2, e2, e3⟩ := tri_rel (d := d) (b := b) (mm := mm) (G := G) R (by omega)
    rw [e0, e19] at R2
    exact ⟨v2, R2, e2.trans e0, e3.trans (by rw [e19]; omega)⟩
theorem sim_simulate (h : Rel B v s f s' f') (hB : B + 50 < 1000000) (q : Int32) : (o_X4_simulate s f (v 0) (v 19) d b mm G q).1 = (o_X5_simulate s' f' (v 0) (v 19) d b mm G q).1 ∧ ∃ v', Rel (B + 40) v' (o_X4_simulate s f (v 0) (v 19) d b mm G q).2.1 (o_X4_simulate s f (v 0) (v 19) d b mm G q).2.2 (o_X5_simulate s' f' (v 0) (v 19) d b mm G q).2.1 (o_X5_simulate s' f' (v 0) (v 19) d b mm G q).2.2 := by
  unfold o_X4_simulate o_X5_simulate o_X4_simulate_25 o_X5_simulate_35
  by_cases c0 : wIn q 1 20 = 0
  · rw [if_pos c0, if_pos c0]; exact ⟨rfl, v, h.mono (by omega)⟩
  rw [if_neg c0, if_neg c0, h.e 11 (by decide)]
  by_cases c1 : s 11 = 0
  case neg => rw [if_neg c1, if_neg c1]; exact ⟨rfl, v, h.mono (by omega)⟩
  rw [if_pos c1, if_pos c1]
  obtain ⟨⟨q1, q2⟩, _⟩ := wIn_tr c0
  generalize Int32.toNatClampNeg q = t at *
  obtain ⟨n, hn⟩ : ∃ n, t = n + 1 := ⟨t - 1, by omega⟩
  have e : smM s' f' (v 0) (v 19) d b mm G (t - 1) (v 0) = triM s' f' (v 0) (v 19) d b mm G t := by
    subst hn; rfl
  rw [e]
  obtain ⟨v1, R, e0, e19⟩ := tris_rel (d := d) (b := b) (mm := mm) (G := G) h t (by omega)
  have hv := R.1
  unfold RV at hv
  refine ⟨?_, v1, R.mono (by omega)⟩
  have H := (R.2.2.2.2.2.1 0 (by decide) (by omega)).1
  have e1 : slt ((triF s f (v 0) (v 19) d b mm G t).1 19) 0 = (v1 19 - 1 - 0) % 5 := by
    unfold slt
    rw [R.n 19 rfl, nI_clamp (by omega)]
    rfl
  show (triF s f (v 0) (v 19) d b mm G t).2 7 (slt ((triF s f (v 0) (v 19) d b mm G t).1 19) 0) = (triM s' f' (v 0) (v 19) d b mm G t).2 7 0
  rw [e1]
  exact H.symm
end SIM4
