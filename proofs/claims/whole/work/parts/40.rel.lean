/-! the two states side by side -/
def ixB (i : Nat) : Bool := i == 0 || i == 1 || i == 2 || i == 3 || i == 4 || i == 5 || i == 6 || i == 7 || i == 9 || i == 12 || i == 13 || i == 17 || i == 19
def RV (B : Nat) (v : Nat → Nat) : Prop := (4 ≤ v 0 ∧ v 0 ≤ 48) ∧ v 1 ≤ 2000 ∧ v 2 ≤ 8 ∧ v 3 ≤ 333 ∧ v 4 ≤ 4 ∧ (1 ≤ v 5 ∧ v 5 ≤ 1000000) ∧ (1 ≤ v 6 ∧ v 6 ≤ 10) ∧ v 7 ≤ 5 ∧ (1 ≤ v 9 ∧ v 9 ≤ 5) ∧ v 12 ≤ v 0 ∧ v 17 ≤ 1000 ∧ v 19 ≤ B ∧ v 13 ≤ B
def RSc (v : Nat → Nat) (s : Nat → Int32) : Prop := ∀ i, ixB i = true → s i = nI (v i)
def RBest (N : Nat) (s : Nat → Int32) (f : Nat → Nat → Int32) (s' : Nat → Int32) (f' : Nat → Nat → Int32) : Prop := (s 20 = 0 ∧ s' 22 = -1) ∨ (¬ s 20 = 0 ∧ s' 22 = s 22 ∧ s' 21 = s 21 ∧ 0 ≤ s' 22 ∧ ∀ k, k < N → f' 9 k = f 9 k)
def RHist (N K : Nat) (f f' : Nat → Nat → Int32) : Prop := ∀ A, A < 5 → A < K → f' 7 A = f 7 ((K - 1 - A) % 5) ∧ f' 8 A = f 8 ((K - 1 - A) % 5) ∧ ∀ k, k < N → f' 10 (48 * A + k) = f (10 + (K - 1 - A) % 5) k
def RArr (N K : Nat) (f f' : Nat → Nat → Int32) : Prop := (∀ k, k < N → f' 0 k = f 0 k) ∧ (∀ k, k < N → f' 1 k = f 1 k) ∧ (0 < K → ∀ k, k < N → f' 4 k = f 4 k) ∧ ∀ k, k < 6 → f' 6 k = f 6 k
def RPl (f : Nat → Nat → Int32) : Prop := ∀ k, k < 6 → -3000 ≤ (f 6 k).toInt ∧ (f 6 k).toInt ≤ 3000
def RRaw (c : Nat) (f f' : Nat → Nat → Int32) : Prop := ∀ k, k < c → f' 3 k = f 3 k
def Rel (B : Nat) (v : Nat → Nat) (s : Nat → Int32) (f : Nat → Nat → Int32) (s' : Nat → Int32) (f' : Nat → Nat → Int32) : Prop :=
  RV B v ∧ RSc v s ∧ (¬ s 11 = 0 → v 12 < v 0 ∧ 1 ≤ v 13) ∧ (∀ j, j < 20 → s' j = s j) ∧ RBest (v 0) s f s' f' ∧ RHist (v 0) (v 19) f f' ∧ RArr (v 0) (v 19) f f' ∧ RPl f ∧ RRaw (v 12) f f'
theorem RV.mono {B B' : Nat} {v : Nat → Nat} (h : RV B v) (hB : B ≤ B') : RV B' v := by
  obtain ⟨h1, h2, h3, h4, h5, h6, h7, h8, h9, h10, h11, h12, h13⟩ := h
  exact ⟨h1, h2, h3, h4, h5, h6, h7, h8, h9, h10, h11, Nat.le_trans h12 hB, Nat.le_trans h13 hB⟩
theorem Rel.mono {B B' : Nat} {v : Nat → Nat} {s s' : Nat → Int32} {f f' : Nat → Nat → Int32} (h : Rel B v s f s' f') (hB : B ≤ B') : Rel B' v s f s' f' := ⟨h.1.mono hB, h.2⟩
theorem vu_s {v : Nat → Nat} {i n : Nat} : va_up v i n i = n := if_pos rfl
theorem vu_n {v : Nat → Nat} {i j n : Nat} (h : j ≠ i) : va_up v i n j = v j := if_neg h
theorem up_s {s : Nat → Int32} {i : Nat} {x : Int32} : upd s i x i = x := if_pos rfl
theorem up_n {s : Nat → Int32} {i j : Nat} {x : Int32} (h : j ≠ i) : upd s i x j = s j := if_neg h
/-! congruence of sums and of the shift's choice -/
theorem sumL_congr {g h : Nat → Int64} {n : Nat} (e : ∀ k, k < n → g k = h k) : sumL g n = sumL h n := by
  induction n with
  | zero => rfl
  | succ n ih => unfold sumL; rw [ih (fun k hk => e k (by omega)), e n (by omega)]
theorem sumI_congr {g h : Nat → Int32} {n : Nat} (e : ∀ k, k < n → g k = h k) : sumI g n = sumI h n := by
  induction n with
  | zero => rfl
  | succ n ih => unfold sumI; rw [ih (fun k hk => e k (by omega)), e n (by omega)]
theorem wst_congr {g h : Nat → Int32} {n : Nat} (e : ∀ k, k < n + 1 → g k = h k) : wst g n = wst h n := by
  induction n with
  | zero => rfl
  | succ n ih =>
    have h1 := ih (fun k hk => e k (by omega))
    have h2 := wst_le h n
    unfold wst
    rw [h1, e (n + 1) (by omega), e (wst h n) (by omega)]
theorem stdy_congr {g h : Nat → Int32} {tol : Int32} {n : Nat} (e : ∀ k, k < n → g k = h k) : stdy g tol n = stdy h tol n := by
  induction n with
  | zero => rfl
  | succ n ih => unfold stdy; rw [ih (fun k hk => e k (by omega)), e n (by omega)]
theorem misf_congr {f f' : Nat → Nat → Int32} {N : Nat} (h4 : 4 ≤ N) (h48 : N ≤ 48) (h3 : ∀ k, k < N → f' 3 k = f 3 k) (ha : ∀ k, k < N → f' 4 k = f 4 k) : misf f' N = misf f N := by
  funext w
  unfold misf
  refine sumL_congr (fun k hk => ?_)
  rw [h3 _ (rix_lt h4 h48), ha k hk]
/-! correction -/
theorem sm_oth {s : Nat → Int32} {f : Nat → Nat → Int32} {N j : Nat} (h1 : j ≠ 1) (h2 : j ≠ 2) : o_X4_smoothOnce s f N j = f j ∧ o_X5_smooth s f N j = f j := by
  unfold o_X4_smoothOnce o_X4_smoothOnce_33 o_X5_smooth o_X5_smooth_2 o_X5_smooth_110
  rw [va_un h1, va_un h2]
  exact ⟨rfl, rfl⟩
theorem smF_congr {s s' : Nat → Int32} {f f' : Nat → Nat → Int32} {N k : Nat} (h3 : s' 3 = s 3) (h4 : 4 ≤ N) (hk : k < N) (h1 : ∀ k, k < N → f' 1 k = f 1 k) : smF s' f' N k = smF s f N k := by
  unfold smF
  rw [h3, h1 _ (by omega : k - 1 < N), h1 k hk, h1 _ (by omega : min (k + 1) (N - 1) < N)]
theorem it_oth4 {s : Nat → Int32} {f : Nat → Nat → Int32} {N n j : Nat} (h1 : j ≠ 1) (h2 : j ≠ 2) : itk (fun _ φ => o_X4_smoothOnce s φ N) n f j = f j := by
  induction n with
  | zero => rfl
  | succ n ih => exact (sm_oth h1 h2).1.trans ih
theorem it_oth5 {s : Nat → Int32} {f : Nat → Nat → Int32} {N n j : Nat} (h1 : j ≠ 1) (h2 : j ≠ 2) : itk (fun _ φ => o_X5_smooth s φ N) n f j = f j := by
  induction n with
  | zero => rfl
  | succ n ih => exact (sm_oth h1 h2).2.trans ih
theorem it_rel {s s' : Nat → Int32} {f f' : Nat → Nat → Int32} {N n : Nat} (h3 : s' 3 = s 3) (h4 : 4 ≤ N) (h1 : ∀ k, k < N → f' 1 k = f 1 k) : ∀ k, k < N → itk (fun _ φ => o_X5_smooth s' φ N) n f' 1 k = itk (fun _ φ => o_X4_smoothOnce s φ N) n f 1 k := by
  induction n with
  | zero => exact h1
  | succ n ih =>
    intro k hk
    show o_X5_smooth s' (itk _ n f') N 1 k = o_X4_smoothOnce s (itk _ n f) N 1 k
    unfold o_X4_smoothOnce o_X4_smoothOnce_33 o_X5_smooth o_X5_smooth_2 o_X5_smooth_110
    rw [va_us, va_us, pfx_lt _ _ hk, pfx_lt _ _ hk]
    exact smF_congr h3 h4 hk ih
theorem cor_oth4 {s : Nat → Int32} {f : Nat → Nat → Int32} {N kn E d b mm j : Nat} {fd : Int32} (h1 : j ≠ 1) (h2 : j ≠ 2) : o_X4_correct s f N kn E d b mm fd j = f j := by
  unfold o_X4_correct o_X4_correct_3 o_X4_correct_116 o_X4_correct_141
  rw [va_un h1, it_oth4 h1 h2, va_un h1]
theorem cor_oth5 {s : Nat → Int32} {f : Nat → Nat → Int32} {N kn d b mm j : Nat} {fd : Int32} (h1 : j ≠ 1) (h2 : j ≠ 2) : o_X5_correct s f N kn d b mm fd j = f j := by
  unfold o_X5_correct o_X5_correct_2 o_X5_correct_99 o_X5_correct_119
  rw [va_un h1, it_oth5 h1 h2, va_un h1]
theorem cor_rel {s s' : Nat → Int32} {f f' : Nat → Nat → Int32} {N kn E d b mm : Nat} {fd : Int32} (e1 : s' 1 = s 1) (e3 : s' 3 = s 3) (e5 : s' 5 = s 5) (h4 : 4 ≤ N) (hkn : kn ≤ N) (h1 : ∀ k, k < N → f' 1 k = f 1 k) (hE : ∀ k, k < kn → f' 5 k = f E k) : ∀ k, k < N → o_X5_correct s' f' N kn d b mm fd 1 k = o_X4_correct s f N kn E d b mm fd 1 k := by
  intro k hk
  unfold o_X5_correct o_X5_correct_2 o_X5_correct_99 o_X5_correct_119 o_X4_correct o_X4_correct_3 o_X4_correct_116 o_X4_correct_141
  rw [va_us, va_us, pfx_lt _ _ hk, pfx_lt _ _ hk]
  unfold limF
  rw [e5]
  refine congrArg (fun z => o_X4_limitTo (Int32.toInt64 z) (s 5)) ?_
  refine it_rel e3 h4 (fun y hy => ?_) k hk
  rw [va_us, va_us]
  by_cases hl : y < kn - d
  · rw [pfx_lt _ _ hl, pfx_lt _ _ hl]
    unfold corF
    rw [e1, h1 y hy, hE (y + d) (by omega)]
  · rw [pfx_ge _ _ (by omega), pfx_ge _ _ (by omega), h1 y hy]
