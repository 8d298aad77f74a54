theorem Rel.set {B : Nat} {v : Nat → Nat} {s s' : Nat → Int32} {f f' : Nat → Nat → Int32} (h : Rel B v s f s' f') {i n : Nat} {x : Int32} (hi : i ≠ 0 ∧ i ≠ 11 ∧ i ≠ 12 ∧ i ≠ 13 ∧ i ≠ 19 ∧ i < 20) (hx : ixB i = true → x = nI n) (hr : RV B (va_up v i n)) : Rel B (va_up v i n) (upd s i x) f (upd s' i x) f' := by
  obtain ⟨h1, h2, h3, h4, h5, h6, h7, h8, h9⟩ := h
  obtain ⟨i0, i11, i12, i13, i19, i20⟩ := hi
  refine ⟨hr, fun j hj => ?_, fun hz => ?_, fun j hj => ?_, ?_, ?_, ?_, h8, ?_⟩
  · by_cases e : j = i
    · subst e; rw [up_s, vu_s]; exact hx hj
    · rw [up_n e, vu_n e]; exact h2 j hj
  · rw [up_n (Ne.symm i11)] at hz
    rw [vu_n (Ne.symm i12), vu_n (Ne.symm i0), vu_n (Ne.symm i13)]
    exact h3 hz
  · by_cases e : j = i
    · subst e; rw [up_s, up_s]
    · rw [up_n e, up_n e]; exact h4 j hj
  · rw [vu_n (Ne.symm i0)]
    unfold RBest at h5 ⊢
    rw [up_n (by omega), up_n (by omega), up_n (by omega), up_n (by omega), up_n (by omega)]
    exact h5
  · rw [vu_n (Ne.symm i0), vu_n (Ne.symm i19)]; exact h6
  · rw [vu_n (Ne.symm i0), vu_n (Ne.symm i19)]; exact h7
  · rw [vu_n (Ne.symm i12)]; exact h9
section SIM
variable {B : Nat} {v : Nat → Nat} {s s' : Nat → Int32} {f f' : Nat → Nat → Int32}
theorem Rel.e (h : Rel B v s f s' f') (j : Nat) (hj : j < 20) : s' j = s j := h.2.2.2.1 j hj
theorem Rel.n (h : Rel B v s f s' f') (j : Nat) (hj : ixB j = true) : s j = nI (v j) := h.2.1 j hj
theorem Rel.n' (h : Rel B v s f s' f') (j : Nat) (hj : ixB j = true) (hj2 : j < 20) : s' j = nI (v j) := (h.e j hj2).trans (h.n j hj)
theorem noS_if {α : Type} (h : Rel B v s f s' f') (k : Int32) (a b : α) : (if noS s' k = 0 then a else b) = if wIn k 0 (s 0 - 1) = 0 then b else a := by
  unfold noS
  rw [h.e 0 (by decide)]
  by_cases c : wIn k 0 (s 0 - 1) = 0
  · rw [if_pos c, if_pos c, if_neg (by decide)]
  · rw [if_neg c, if_neg c, if_pos rfl]
theorem rch_if {α : Type} (f : Nat → Nat → Int32) (s : Nat → Int32) (g : Int32) (a b : α) : (if o_X1_reaches s f g = 0 then a else b) = if s 19 ≤ g then a else b := by
  unfold o_X1_reaches
  by_cases c : s 19 ≤ g
  · rw [if_pos c, if_pos c, if_pos rfl]
  · rw [if_neg c, if_neg c, if_neg (by decide)]
theorem lt_if {α : Type} (x g : Int32) (a b : α) : (if g < x then b else a) = if x ≤ g then a else b := by
  by_cases c : x ≤ g
  · rw [if_pos c, if_neg (Int32.not_lt.mpr c)]
  · rw [if_neg c, if_pos (Int32.not_le.mp c)]
theorem if_if {α : Type} {c : Prop} [Decidable c] {a a' b b' : α} (h1 : c → a = a') (h2 : ¬ c → b = b') : (if c then a else b) = if c then a' else b' := by
  by_cases h : c
  · rw [if_pos h, if_pos h, h1 h]
  · rw [if_neg h, if_neg h, h2 h]
theorem sim_setGain (h : Rel B v s f s' f') (g d : Int32) : (o_X4_setGain s f g d).1 = (o_X5_setGain s' f' g d).1 ∧ ∃ v', Rel B v' (o_X4_setGain s f g d).2 f (o_X5_setGain s' f' g d).2 f' := by
  unfold o_X4_setGain o_X5_setGain
  rw [h.e 1 (by decide), h.e 2 (by decide)]
  by_cases c1 : wIn g 0 2000 = 0
  · rw [if_pos c1, if_pos c1]; exact ⟨rfl, v, h⟩
  rw [if_neg c1, if_neg c1]
  by_cases c2 : wIn d 0 8 = 0
  · rw [if_pos c2, if_pos c2]; exact ⟨rfl, v, h⟩
  rw [if_neg c2, if_neg c2]
  have hg := wIn_ix (n := 2000) (by decide) rfl c1
  have hd := wIn_ix (n := 8) (by decide) rfl c2
  have h1 := h.set (i := 1) (n := Int32.toNatClampNeg g) (x := g) (by decide) (fun _ => hg.2) (by have hv := h.1; unfold RV at hv ⊢; simp [va_up]; omega)
  have R := h1.set (i := 2) (n := Int32.toNatClampNeg d) (x := d) (by decide) (fun _ => hd.2) (by have hv := h1.1; unfold RV at hv ⊢; simp [va_up] at hv ⊢; omega)
  split
  · split
    · exact ⟨by first | rfl | decide | (show onI _ = _; decide), _, R⟩
    · exact ⟨by first | rfl | decide | (show onI _ = _; decide), _, R⟩
  · exact ⟨by first | rfl | decide | (show onI _ = _; decide), _, R⟩
theorem sim_setSmoothing (h : Rel B v s f s' f') (g d : Int32) : (o_X4_setSmoothing s f g d).1 = (o_X5_setSmoothing s' f' g d).1 ∧ ∃ v', Rel B v' (o_X4_setSmoothing s f g d).2 f (o_X5_setSmoothing s' f' g d).2 f' := by
  unfold o_X4_setSmoothing o_X5_setSmoothing
  rw [h.e 3 (by decide), h.e 4 (by decide)]
  by_cases c1 : wIn g 0 333 = 0
  · rw [if_pos c1, if_pos c1]; exact ⟨rfl, v, h⟩
  rw [if_neg c1, if_neg c1]
  by_cases c2 : wIn d 0 4 = 0
  · rw [if_pos c2, if_pos c2]; exact ⟨rfl, v, h⟩
  rw [if_neg c2, if_neg c2]
  have hg := wIn_ix (n := 333) (by decide) rfl c1
  have hd := wIn_ix (n := 4) (by decide) rfl c2
  have h1 := h.set (i := 3) (n := Int32.toNatClampNeg g) (x := g) (by decide) (fun _ => hg.2) (by have hv := h.1; unfold RV at hv ⊢; simp [va_up]; omega)
  have R := h1.set (i := 4) (n := Int32.toNatClampNeg d) (x := d) (by decide) (fun _ => hd.2) (by have hv := h1.1; unfold RV at hv ⊢; simp [va_up] at hv ⊢; omega)
  split
  · split
    · exact ⟨by first | rfl | decide | (show onI _ = _; decide), _, R⟩
    · exact ⟨by first | rfl | decide | (show onI _ = _; decide), _, R⟩
  · exact ⟨by first | rfl | decide | (show onI _ = _; decide), _, R⟩
/-- an int of least to most, as a natural -/
theorem wIn_lo {q : Int32} {a b : Nat} (ha : a < 2 ^ 31) (hb : b < 2 ^ 31) (h : ¬ wIn q (nI a) (nI b) = 0) : (a ≤ Int32.toNatClampNeg q ∧ Int32.toNatClampNeg q ≤ b) ∧ q = nI (Int32.toNatClampNeg q) := by
  obtain ⟨h1, h2⟩ := wIn_ne h
  obtain ⟨j, hj, rfl⟩ := nI_of2 (nI_toInt hb) (fun z => by
    have := Int32.lt_of_lt_of_le z (Int32.le_trans (nI_pos' ha) h1)
    exact Int32.lt_irrefl this) h2
  rw [nI_clamp (by omega)]
  exact ⟨⟨(nI_leI ha (by omega)).mp h1, hj⟩, rfl⟩
theorem sim_setLimits (h : Rel B v s f s' f') (g d : Int32) : (o_X4_setLimits s f g d).1 = (o_X5_setLimits s' f' g d).1 ∧ ∃ v', Rel B v' (o_X4_setLimits s f g d).2 f (o_X5_setLimits s' f' g d).2 f' := by
  unfold o_X4_setLimits o_X5_setLimits
  rw [h.e 5 (by decide), h.e 6 (by decide)]
  by_cases c1 : wIn g 1 1000000 = 0
  · rw [if_pos c1, if_pos c1]; exact ⟨rfl, v, h⟩
  rw [if_neg c1, if_neg c1]
  by_cases c2 : wIn d 1 10 = 0
  · rw [if_pos c2, if_pos c2]; exact ⟨rfl, v, h⟩
  rw [if_neg c2, if_neg c2]
  have hg := wIn_lo (a := 1) (b := 1000000) (by decide) (by decide) c1
  have hd := wIn_lo (a := 1) (b := 10) (by decide) (by decide) c2
  have h1 := h.set (i := 5) (n := Int32.toNatClampNeg g) (x := g) (by decide) (fun _ => hg.2) (by have hv := h.1; unfold RV at hv ⊢; simp [va_up]; omega)
  have R := h1.set (i := 6) (n := Int32.toNatClampNeg d) (x := d) (by decide) (fun _ => hd.2) (by have hv := h1.1; unfold RV at hv ⊢; simp [va_up] at hv ⊢; omega)
  split
  · split
    · exact ⟨by first | rfl | decide | (show onI _ = _; decide), _, R⟩
    · exact ⟨by first | rfl | decide | (show onI _ = _; decide), _, R⟩
  · exact ⟨by first | rfl | decide | (show onI _ = _; decide), _, R⟩
theorem sim_setTolerance (h : Rel B v s f s' f') (g d : Int32) : (o_X4_setTolerance s f g d).1 = (o_X5_setTolerance s' f' g d).1 ∧ ∃ v', Rel B v' (o_X4_setTolerance s f g d).2 f (o_X5_setTolerance s' f' g d).2 f' := by
  unfold o_X4_setTolerance o_X5_setTolerance
  rw [h.e 8 (by decide), h.e 9 (by decide)]
  by_cases c1 : wIn g 0 1000000 = 0
  · rw [if_pos c1, if_pos c1]; exact ⟨rfl, v, h⟩
  rw [if_neg c1, if_neg c1]
  by_cases c2 : wIn d 1 5 = 0
  · rw [if_pos c2, if_pos c2]; exact ⟨rfl, v, h⟩
  rw [if_neg c2, if_neg c2]
  have hd := wIn_lo (a := 1) (b := 5) (by decide) (by decide) c2
  have h1 := h.set (i := 8) (n := 0) (x := g) (by decide) (fun z => absurd z (by decide)) (by have hv := h.1; unfold RV at hv ⊢; simp [va_up]; omega)
  have R := h1.set (i := 9) (n := Int32.toNatClampNeg d) (x := d) (by decide) (fun _ => hd.2) (by have hv := h1.1; unfold RV at hv ⊢; simp [va_up] at hv ⊢; omega)
  split
  · split
    · exact ⟨by first | rfl | decide | (show onI _ = _; decide), _, R⟩
    · exact ⟨by first | rfl | decide | (show onI _ = _; decide), _, R⟩
  · exact ⟨by first | rfl | decide | (show onI _ = _; decide), _, R⟩
theorem sim_setGreatestShift (h : Rel B v s f s' f') (g : Int32) : (o_X4_setGreatestShift s f g).1 = (o_X5_setGreatestShift s' f' g).1 ∧ ∃ v', Rel B v' (o_X4_setGreatestShift s f g).2 f (o_X5_setGreatestShift s' f' g).2 f' := by
  unfold o_X4_setGreatestShift o_X5_setGreatestShift
  rw [h.e 7 (by decide)]
  by_cases c1 : wIn g 0 5 = 0
  · rw [if_pos c1, if_pos c1]; exact ⟨rfl, v, h⟩
  rw [if_neg c1, if_neg c1]
  have hg := wIn_ix (n := 5) (by decide) rfl c1
  exact ⟨rfl, _, h.set (i := 7) (n := Int32.toNatClampNeg g) (x := g) (by decide) (fun _ => hg.2) (by have hv := h.1; unfold RV at hv ⊢; simp [va_up]; omega)⟩
theorem sim_setGuard (h : Rel B v s f s' f') (g : Int32) : (o_X4_setGuard s f g).1 = (o_X5_setGuard s' f' g).1 ∧ ∃ v', Rel B v' (o_X4_setGuard s f g).2 f (o_X5_setGuard s' f' g).2 f' := by
  unfold o_X4_setGuard o_X5_setGuard
  rw [h.e 10 (by decide)]
  have R := h.set (i := 10) (n := 0) (x := g) (by decide) (fun z => absurd z (by decide)) (by have hv := h.1; unfold RV at hv ⊢; simp [va_up]; omega)
  split
  · exact ⟨by first | rfl | decide | (show onI _ = _; decide), _, R⟩
  · exact ⟨by first | rfl | decide | (show onI _ = _; decide), _, R⟩
theorem sim_setDisturbance (h : Rel B v s f s' f') (g d : Int32) : (o_X4_setDisturbance s f g d).1 = (o_X5_setDisturbance s' f' g d).1 ∧ ∃ v', Rel B v' (o_X4_setDisturbance s f g d).2 f (o_X5_setDisturbance s' f' g d).2 f' := by
  unfold o_X4_setDisturbance o_X5_setDisturbance
  rw [h.e 17 (by decide)]
  by_cases c1 : wIn g 0 1000 = 0
  · rw [if_pos c1, if_pos c1]; exact ⟨rfl, v, h⟩
  rw [if_neg c1, if_neg c1]
  have hg := wIn_ix (n := 1000) (by decide) rfl c1
  have h1 := h.set (i := 17) (n := Int32.toNatClampNeg g) (x := g) (by decide) (fun _ => hg.2) (by have hv := h.1; unfold RV at hv ⊢; simp [va_up]; omega)
  exact ⟨rfl, _, h1.set (i := 18) (n := 0) (x := d) (by decide) (fun z => absurd z (by decide)) (by have hv := h1.1; unfold RV at hv ⊢; simp [va_up] at hv ⊢; omega)⟩
theorem sim_setting (h : Rel B v s f s' f') (q : Int32) : o_X4_setting s f q = o_X5_setting s' f' q := by
  unfold o_X4_setting o_X5_setting
  rw [h.e 0 (by decide), h.e 1 (by decide), h.e 2 (by decide), h.e 3 (by decide), h.e 4 (by decide), h.e 5 (by decide), h.e 6 (by decide), h.e 7 (by decide), h.e 8 (by decide), h.e 9 (by decide), h.e 10 (by decide)]
  rfl
theorem sim_position (h : Rel B v s f s' f') : o_X4_position s f = o_X5_position s' f' := by
  unfold o_X4_position o_X5_position
  rw [h.e 11 (by decide), h.e 12 (by decide)]
theorem sim_count (h : Rel B v s f s' f') (q : Int32) : o_X4_count s f q = o_X5_count s' f' q := by
  unfold o_X4_count o_X5_count
  rw [h.e 13 (by decide), h.e 14 (by decide), h.e 15 (by decide), h.e 16 (by decide), h.e 19 (by decide)]
theorem Rel.ix (h : Rel B v s f s' f') {k : Int32} (c : ¬ wIn k 0 (s 0 - 1) = 0) : Int32.toNatClampNeg k < v 0 ∧ k = nI (Int32.toNatClampNeg k) := wIn_j (h.n 0 rfl) h.1.1.1 h.1.1.2 c
theorem sim_input (h : Rel B v s f s' f') (N N' : Nat) (k : Int32) : o_X4_input s f N k = o_X5_input s' f' N' k := by
  unfold o_X4_input o_X5_input
  rw [noS_if h]
  exact if_if (fun _ => rfl) (fun c => (h.2.2.2.2.2.2.1.2.1 _ (h.ix c).1).symm)
theorem sim_reference (h : Rel B v s f s' f') (N N' : Nat) (k : Int32) : o_X4_reference s f N k = o_X5_reference s' f' N' k := by
  unfold o_X4_reference o_X5_reference
  rw [noS_if h]
  exact if_if (fun _ => rfl) (fun c => (h.2.2.2.2.2.2.1.1 _ (h.ix c).1).symm)
theorem neg1_lt : ¬ (0 : Int32) ≤ -1 := by decide
theorem sim_best (h : Rel B v s f s' f') (q : Int32) : o_X4_best s f q = o_X5_best s' f' q := by
  unfold o_X4_best o_X5_best
  refine if_if (fun _ => rfl) (fun _ => ?_)
  rcases h.2.2.2.2.1 with ⟨a1, a2⟩ | ⟨a1, a2, a3, a4, _⟩
  · rw [if_pos a1, a2, if_neg neg1_lt]
  · rw [if_neg a1, if_pos a4, a2, a3]
theorem sim_bestInput (h : Rel B v s f s' f') (N N' : Nat) (k : Int32) : o_X4_bestInput s f N k = o_X5_bestInput s' f' N' k := by
  unfold o_X4_bestInput o_X5_bestInput
  rw [noS_if h]
  refine if_if (fun _ => rfl) (fun c => ?_)
  rcases h.2.2.2.2.1 with ⟨a1, a2⟩ | ⟨a1, a2, a3, a4, a5⟩
  · rw [if_pos a1, a2, if_neg neg1_lt]
  · rw [if_neg a1, if_pos a4, a5 _ (h.ix c).1]
/-- the row of age g of the class -/
theorem Rel.sl (h : Rel B v s f s' f') (hB : B < 1000000) {g : Int32} (hg : Int32.toNatClampNeg g ≤ 4 ∧ g = nI (Int32.toNatClampNeg g)) (c : ¬ s 19 ≤ g) : Int32.toNatClampNeg g < 5 ∧ Int32.toNatClampNeg g < v 19 ∧ slt (s 19) g = (v 19 - 1 - Int32.toNatClampNeg g) % 5 := by
  have hv := h.1
  unfold RV at hv
  have e := h.n 19 rfl
  refine ⟨by omega, Nat.lt_of_not_le (fun z => c ?_), ?_⟩
  · rw [e, hg.2]; exact nI_le z (by omega)
  · unfold slt; rw [e, nI_clamp (by omega)]
theorem sim_error (h : Rel B v s f s' f') (hB : B < 1000000) (k g : Int32) : o_X4_error s f k g = o_X5_error s' f' k g := by
  unfold o_X4_error o_X5_error
  rw [noS_if h]
  refine if_if (fun _ => rfl) (fun c => if_if (fun _ => rfl) (fun c2 => ?_))
  rw [rch_if, h.e 19 (by decide)]
  refine if_if (fun _ => rfl) (fun c3 => ?_)
  obtain ⟨a1, a2, a3⟩ := h.sl hB (wIn_ix (n := 4) (by decide) rfl c2) c3
  rw [a3]
  exact ((h.2.2.2.2.2.1 _ a1 a2).2.2 _ (h.ix c).1).symm
theorem sim_norm (h : Rel B v s f s' f') (hB : B < 1000000) (g : Int32) : o_X4_norm s f g = o_X5_norm s' f' g := by
  unfold o_X4_norm o_X5_norm
  refine if_if (fun _ => rfl) (fun c2 => ?_)
  rw [rch_if, h.e 19 (by decide)]
  refine if_if (fun _ => rfl) (fun c3 => ?_)
  obtain ⟨a1, a2, a3⟩ := h.sl hB (wIn_ix (n := 4) (by decide) rfl c2) c3
  rw [a3]
  exact (h.2.2.2.2.2.1 _ a1 a2).1.symm
theorem sim_shift (h : Rel B v s f s' f') (hB : B < 1000000) (g : Int32) : o_X4_shift s f g = o_X5_shift s' f' g := by
  unfold o_X4_shift o_X5_shift
  refine if_if (fun _ => rfl) (fun c2 => ?_)
  rw [rch_if, h.e 19 (by decide)]
  refine if_if (fun _ => rfl) (fun c3 => ?_)
  obtain ⟨a1, a2, a3⟩ := h.sl hB (wIn_ix (n := 4) (by decide) rfl c2) c3
  rw [a3]
  exact (h.2.2.2.2.2.1 _ a1 a2).2.1.symm
theorem sim_worstSample (h : Rel B v s f s' f') (hB : B < 1000000) (g : Int32) : o_X4_worstSample s f (v 0) g = o_X5_worstSample s' f' (v 0) g := by
  unfold o_X4_worstSample o_X5_worstSample o_X5_worstSample_25
  refine if_if (fun _ => rfl) (fun c2 => ?_)
  rw [rch_if, lt_if, h.e 19 (by decide)]
  refine if_if (fun _ => rfl) (fun c3 => ?_)
  obtain ⟨a1, a2, a3⟩ := h.sl hB (wIn_ix (n := 4) (by decide) rfl c2) c3
  have hv := h.1.1
  rw [a3]
  refine congrArg nI (wst_congr (fun y hy => ?_))
  exact ((h.2.2.2.2.2.1 _ a1 a2).2.2 _ (by omega)).symm
theorem sim_energy (h : Rel B v s f s' f') (hB : B < 1000000) (g : Int32) : o_X4_energy s f (v 0) g = o_X5_energy s' f' (v 0) g := by
  unfold o_X4_energy o_X5_energy o_X5_energy_37
  refine if_if (fun _ => rfl) (fun c2 => ?_)
  rw [rch_if, lt_if, h.e 19 (by decide)]
  refine if_if (fun _ => rfl) (fun c3 => ?_)
  obtain ⟨a1, a2, a3⟩ := h.sl hB (wIn_ix (n := 4) (by decide) rfl c2) c3
  rw [a3]
  refine sumL_congr (fun y hy => ?_)
  rw [(h.2.2.2.2.2.1 _ a1 a2).2.2 _ hy]
theorem sim_steady (h : Rel B v s f s' f') (hB : B < 1000000) {k : Int32} (hk : Int32.toNatClampNeg k < v 0) : o_X1_staysWithin s f (v 19) (v 9) k (s 8) = stvF (v 9) (v 19) (fun y => f' 10 (48 * y + Int32.toNatClampNeg k)) (s' 8) (v 9) := by
  have hv := h.1
  unfold RV at hv
  unfold o_X1_staysWithin o_X1_staysWithin_13 stvF
  rw [h.e 8 (by decide)]
  refine if_if (fun c => stdy_congr (fun y hy => ?_)) (fun _ => rfl)
  have hKh := (nI_leI (a := v 9) (b := v 19) (by omega) (by omega)).mp c
  have e : slt (s 19) (nI y) = (v 19 - 1 - y) % 5 := by
    unfold slt; rw [h.n 19 rfl, nI_clamp (by omega), nI_clamp (by omega)]
  rw [e]
  exact ((h.2.2.2.2.2.1 y (by omega) (by omega)).2.2 _ hk).symm
theorem sim_convergedCount (h : Rel B v s f s' f') (hB : B < 1000000) : o_X4_convergedCount s f (v 0) (v 19) (v 9) = o_X5_convergedCount s' f' (v 0) (v 19) (v 9) := by
  unfold o_X4_convergedCount o_X4_convergedCount_4 o_X5_convergedCount o_X5_convergedCount_4
  have hv := h.1.1
  exact sumI_congr (fun y hy => congrArg onI (sim_steady h hB (by rw [nI_clamp (by omega)]; exact hy)))
theorem sim_state (h : Rel B v s f s' f') (hB : B < 1000000) (k : Int32) : o_X4_state s f (v 19) (v 9) k = o_X5_state s' f' (v 19) (v 9) k := by
  have hv := h.1
  unfold RV at hv
  unfold o_X4_state o_X5_state
  rw [noS_if h]
  refine if_if (fun _ => rfl) (fun c => ?_)
  have hk := (h.ix c).1
  rw [rch_if, h.n 19 rfl, sim_steady h hB hk]
  by_cases c0 : v 19 = 0
  · rw [c0, if_pos (by decide), if_pos (by decide)]
  rw [if_neg (fun z => c0 (by have := (nI_leI (a := v 19) (b := 0) (by omega) (by omega)).mp z; omega)), if_neg ((fun z => c0 ((nI_eq (a := v 19) (b := 0) (by omega) (by omega)).mp z)) : ¬ nI (v 19) = 0)]
  refine if_if (fun _ => ?_) (fun _ => rfl)
  unfold o_X1_hasGrown
  by_cases c1 : v 19 = 1
  · rw [c1, if_pos (show nI 1 < 2 by decide), if_pos (show nI 1 ≤ 1 by decide), if_pos rfl]
  rw [if_neg (show ¬ nI (v 19) < 2 from fun z => c1 (by have := (nI_ltI (a := v 19) (b := 2) (by omega) (by omega)).mp z; omega)), if_neg (show ¬ nI (v 19) ≤ 1 from fun z => c1 (by have := (nI_leI (a := v 19) (b := 1) (by omega) (by omega)).mp z; omega))]
  have e0 : slt (s 19) 0 = (v 19 - 1 - 0) % 5 := by
    unfold slt; rw [h.n 19 rfl, nI_clamp (by omega)]; rfl
  have e1 : slt (s 19) 1 = (v 19 - 1 - 1) % 5 := by
    unfold slt; rw [h.n 19 rfl, nI_clamp (by omega)]; rfl
  have g0 := (h.2.2.2.2.2.1 0 (by omega) (by omega)).2.2 _ hk
  have g1 := (h.2.2.2.2.2.1 1 (by omega) (by omega)).2.2 _ hk
  rw [e0, e1, ← g0, ← g1, show 48 * 0 + Int32.toNatClampNeg k = Int32.toNatClampNeg k by omega, show 48 * 1 + Int32.toNatClampNeg k = 48 + Int32.toNatClampNeg k by omega]
  by_cases c2 : iabs (f' 10 (Int32.toNatClampNeg k)) ≤ iabs (f' 10 (48 + Int32.toNatClampNeg k))
  · rw [if_pos c2, if_pos c2, if_pos rfl]
  · rw [if_neg c2, if_neg c2, if_neg (by decide)]
end SIM
