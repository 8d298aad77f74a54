/-- the first i places by g, the others as they were -/
def pfx (i : Nat) (g h : Nat → Int32) : Nat → Int32 := fun k => if k < i then g k else h k
theorem pfx_0 (g h : Nat → Int32) : pfx 0 g h = h := funext fun k => if_neg (Nat.not_lt_zero k)
theorem pfx_lt {i k : Nat} (g h : Nat → Int32) (hk : k < i) : pfx i g h k = g k := if_pos hk
theorem pfx_ge {i k : Nat} (g h : Nat → Int32) (hk : i ≤ k) : pfx i g h k = h k := if_neg (Nat.not_lt.mpr hk)
theorem pfx_upd {i : Nat} {g h : Nat → Int32} {v : Int32} (hv : v = g i) : upd (pfx i g h) i v = pfx (i + 1) g h := by
  subst hv
  funext k
  unfold upd pfx
  by_cases h1 : k = i
  · subst h1; rw [if_pos rfl, if_pos (Nat.lt_succ_self _)]
  · rw [if_neg h1]
    by_cases h2 : k < i
    · rw [if_pos h2, if_pos (Nat.lt_succ_of_lt h2)]
    · rw [if_neg h2, if_neg (by omega)]
theorem va_uu {f : Nat → Nat → Int32} {j : Nat} {g h : Nat → Int32} : va_up (va_up f j g) j h = va_up f j h := bx_uu f j g h
theorem va_us {f : Nat → Nat → Int32} {j : Nat} {g : Nat → Int32} : va_up f j g j = g := if_pos rfl
theorem va_un {f : Nat → Nat → Int32} {i j : Nat} {g : Nat → Int32} (h : i ≠ j) : va_up f j g i = f i := if_neg h
theorem va_self {f : Nat → Nat → Int32} {j : Nat} : va_up f j (f j) = f := by
  funext k
  unfold va_up
  by_cases h : k = j
  · subst h; rw [if_pos rfl]
  · rw [if_neg h]
/-- a step of a loop that fills an array from its first place on -/
theorem va_step {f : Nat → Nat → Int32} {i j : Nat} {g h : Nat → Int32} {v : Int32} (hv : v = g i) : va_up (va_up f j (pfx i g h)) j (upd (va_up f j (pfx i g h) j) i v) = va_up f j (pfx (i + 1) g h) := by
  rw [va_uu, va_us, pfx_upd hv]
theorem va_step' {f : Nat → Nat → Int32} {i j : Nat} {g h : Nat → Int32} {v : Int32} (hv : v = g i) : va_up (va_up f j (pfx i g h)) j (upd (pfx i g h) i v) = va_up f j (pfx (i + 1) g h) := by
  rw [va_uu, pfx_upd hv]
theorem va_first {f : Nat → Nat → Int32} {j : Nat} {g : Nat → Int32} : va_up f j (pfx 0 g (f j)) = f := by rw [pfx_0, va_self]
theorem cpy_pfx {n : Nat} {g h h2 : Nat → Int32} : va_cpy (pfx n g h) h2 0 0 n = pfx n g h2 := by
  funext j
  by_cases hj : j < n
  · rw [sb_cpy0 hj, pfx_lt _ _ hj, pfx_lt _ _ hj]
  · rw [pk_cpy_out (Or.inr (by omega)), pfx_ge _ _ (by omega)]
theorem cpy_pfx2 {n : Nat} {g h2 : Nat → Int32} : va_cpy g h2 0 0 n = pfx n g h2 := by
  funext j
  by_cases hj : j < n
  · rw [sb_cpy0 hj, pfx_lt _ _ hj]
  · rw [pk_cpy_out (Or.inr (by omega)), pfx_ge _ _ (by omega)]
def sumL (g : Nat → Int64) : Nat → Int64
  | 0 => 0
  | n + 1 => sumL g n + g n
def sumI (g : Nat → Int32) : Nat → Int32
  | 0 => 0
  | n + 1 => sumI g n + g n
def itk {α : Type} (g : Nat → α → α) : Nat → α → α
  | 0, x => x
  | n + 1, x => g n (itk g n x)
/-- the place of the recorded output of index k: the first one for all below, the last one for all above -/
def rix (N : Nat) (k : Int32) : Nat := if k < 0 then 0 else if nI N ≤ k then N - 1 else Int32.toNatClampNeg k
theorem rix_lt {N : Nat} {k : Int32} (h4 : 4 ≤ N) (h48 : N ≤ 48) : rix N k < N := by
  unfold rix
  by_cases h1 : k < 0
  · rw [if_pos h1]; omega
  · rw [if_neg h1]
    by_cases h2 : nI N ≤ k
    · rw [if_pos h2]; omega
    · rw [if_neg h2]
      obtain ⟨j, hj, rfl⟩ := nI_of h1
      rw [nI_clamp hj]
      have := nI_leI (a := N) (b := j) (by omega) hj
      exact Nat.lt_of_not_le (fun z => h2 (this.mpr z))
theorem nI_0lt {j : Nat} (h0 : 0 < j) (hj : j < 2 ^ 31) : (0 : Int32) < nI j := nI_lt (a := 0) h0 hj
theorem rix_eq {N : Nat} {k : Int32} (h4 : 4 ≤ N) (h48 : N ≤ 48) : (if (0 : Int32) < (if k < nI (N - 1) then k else nI (N - 1)) then (if k < nI (N - 1) then k else nI (N - 1)) else 0) = nI (rix N k) := by
  unfold rix
  by_cases h1 : k < 0
  · have h3 : k < nI (N - 1) := Int32.lt_of_lt_of_le h1 (nI_pos' (by omega))
    have h2 : ¬ (0 : Int32) < k := Int32.not_lt.mpr (Int32.le_of_lt h1)
    rw [if_pos h1, if_pos h3, if_neg h2]; rfl
  · obtain ⟨j, hj, rfl⟩ := nI_of h1
    rw [if_neg h1]
    have e1 := nI_ltI (a := j) (b := N - 1) hj (by omega)
    have e2 := nI_leI (a := N) (b := j) (by omega) hj
    by_cases h2 : j < N - 1
    · rw [if_pos (e1.mpr h2), if_neg (show ¬ nI N ≤ nI j from fun z => by have := e2.mp z; omega), nI_clamp hj]
      by_cases h0 : j = 0
      · subst h0; rfl
      · rw [if_pos (nI_0lt (by omega) hj)]
    · rw [if_neg (show ¬ nI j < nI (N - 1) from fun z => h2 (e1.mp z)), if_pos (nI_0lt (j := N - 1) (by omega) (by omega))]
      by_cases h3 : N ≤ j
      · rw [if_pos (e2.mpr h3)]
      · rw [if_neg (show ¬ nI N ≤ nI j from fun z => h3 (e2.mp z)), nI_clamp hj]
        congr 1
        omega
theorem mx_eq {i : Nat} (h : i < 2 ^ 31) : (if (0 : Int32) < nI i - 1 then nI i - 1 else 0) = nI (i - 1) := by
  cases i with
  | zero => rfl
  | succ n =>
    rw [nI_pred]
    by_cases h0 : n = 0
    · subst h0; rfl
    · rw [if_pos (nI_0lt (j := n) (by omega) (by omega))]
      rfl
theorem mn_eq {x y : Nat} (hx : x < 2 ^ 31) (hy : y < 2 ^ 31) : (if nI y < nI x then nI y else nI x) = nI (min y x) := by
  by_cases h : y < x
  · rw [if_pos (nI_lt h hx), Nat.min_eq_left (by omega)]
  · rw [if_neg (nI_nlt (by omega) hy), Nat.min_eq_right (by omega)]
def cwt (fd : Int32) (b left : Nat) : Int32 := if fd = 0 then nI b else nI (min left b)
/-- the shift that fits best, of those up to n, the nearer first, of two the negative one -/
def bst (mis : Int32 → Int64) : Nat → Int32
  | 0 => 0
  | n + 1 => if mis (nI (n + 1)) < mis (if mis (-nI (n + 1)) < mis (bst mis n) then -nI (n + 1) else bst mis n) then nI (n + 1) else (if mis (-nI (n + 1)) < mis (bst mis n) then -nI (n + 1) else bst mis n)
theorem neg_le_nI {n : Nat} (h : n < 2 ^ 30) : ¬ nI n < -nI n := by
  rw [Int32.not_lt, Int32.le_iff_toInt_le, sb_negT (by omega), nI_toInt (by omega)]
  omega
theorem neg_2 (x : Int32) : -x + 2 * x = x := by
  have : (2 : Int32) * x = x + x := by rw [show (2 : Int32) = 1 + 1 from by decide, Int32.add_mul, Int32.one_mul]
  rw [this, ← Int32.add_assoc, Int32.add_left_neg, Int32.zero_add]
theorem tr_2 {n : Nat} (h : n < 2 ^ 20) (h0 : 0 < n) : nI n < nI n + 2 * nI n := by
  rw [show (2 : Int32) = nI 2 from rfl, pk_mul, nI_add]
  exact nI_lt (by omega) (by omega)
theorem slt_top {K : Nat} (h : K < 1000000) : nI (slt (nI (K + 1)) 0) = nI (K % 5) := by
  unfold slt
  rw [nI_clamp (by omega), show Int32.toNatClampNeg 0 = 0 from rfl]
  rfl
theorem x_f {cI cO : ClassId} {a : Nat → Nat} {s : Nat → Int32} {f f' : Nat → Nat → Int32} {R : va_W} (h : f = f') : xW cI cO a s f R = xW cI cO a s f' R := h ▸ rfl
theorem m_f {cI cO : ClassId} {a : Nat → Nat} {s : Nat → Int32} {f f' : Nat → Nat → Int32} {R : va_W} (h : f = f') : mW cI cO a s f R = mW cI cO a s f' R := h ▸ rfl
