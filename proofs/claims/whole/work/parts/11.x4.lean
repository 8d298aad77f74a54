def fdv (x y : Int64) : Int64 := if x < x / y * y then x / y - 1 else x / y
theorem xor_sign {x y : Int64} (hy : 0 ≤ y.toInt) : (0 ≤ x ^^^ y) ↔ 0 ≤ x.toInt := by
  rw [← Int64.not_lt, Int64.lt_iff_toBitVec_slt, show (0 : Int64).toBitVec = 0#64 from rfl, BitVec.slt_zero_eq_msb, Int64.toBitVec_xor, BitVec.msb_xor, BitVec.msb_eq_toInt, BitVec.msb_eq_toInt]
  have h1 : decide (y.toBitVec.toInt < 0) = false := decide_eq_false (fun z => by have : y.toBitVec.toInt = y.toInt := rfl; omega)
  rw [h1]
  show ¬ (decide (x.toInt < 0) ^^ false) = true ↔ _
  simp
theorem tdv {X Y : Int} (hY : 0 < Y) : (0 ≤ X → 0 ≤ X.tdiv Y * Y ∧ X.tdiv Y * Y ≤ X) ∧ (X < 0 → X ≤ X.tdiv Y * Y ∧ X.tdiv Y * Y ≤ 0) := by
  have h := Int.tdiv_mul_add_tmod X Y
  refine ⟨fun h0 => ?_, fun h0 => ?_⟩
  · have h1 : 0 ≤ X.tdiv Y := Int.tdiv_nonneg h0 (Int.le_of_lt hY)
    have h2 : 0 ≤ X.tmod Y := Int.tmod_nonneg Y h0
    have h3 : 0 ≤ X.tdiv Y * Y := Int.mul_nonneg h1 (Int.le_of_lt hY)
    omega
  · have h1 : 0 ≤ (-X).tdiv Y := Int.tdiv_nonneg (by omega) (Int.le_of_lt hY)
    have h2 : 0 ≤ (-X).tmod Y := Int.tmod_nonneg Y (by omega)
    have h3 : 0 ≤ (-X).tdiv Y * Y := Int.mul_nonneg h1 (Int.le_of_lt hY)
    rw [Int.neg_tdiv, Int.neg_mul] at h3
    rw [Int.neg_tmod] at h2
    omega
theorem fl_eq {x y : Int64} (hy : 0 < y) : o_J9_floorDiv_f86c9 x y = fdv x y := by
  have hY : 0 < y.toInt := by
    have := Int64.lt_iff_toInt_lt.mp hy
    exact this
  have hne : y ≠ -1 := fun h => by rw [h] at hY; exact absurd hY (by decide)
  have e1 : (x / y).toInt = x.toInt.tdiv y.toInt := Int64.toInt_div_of_ne_right x y hne
  obtain ⟨t1, t2⟩ := tdv (X := x.toInt) hY
  have g1 := Int64.toInt_lt x
  have g2 := Int64.le_toInt x
  have e2 : (x / y * y).toInt = x.toInt.tdiv y.toInt * y.toInt := by
    rw [Int64.toInt_mul, e1]
    refine Int.bmod_eq_of_le ?_ ?_
    · rcases Int.lt_or_le x.toInt 0 with h | h
      · have := t2 h; omega
      · have := t1 h; omega
    · rcases Int.lt_or_le x.toInt 0 with h | h
      · have := t2 h; omega
      · have := t1 h; omega
  have s1 := xor_sign (x := x) (y := y) (Int.le_of_lt hY)
  unfold o_J9_floorDiv_f86c9 fdv
  rcases Int.lt_or_le x.toInt 0 with h | h
  · rw [if_neg (fun z => by have := s1.mp z; omega)]
    by_cases h2 : x / y * y = x
    · rw [if_pos h2, if_neg (fun z => by rw [h2] at z; exact Int64.lt_irrefl z)]
    · rw [if_neg h2, if_pos]
      rw [Int64.lt_iff_toInt_lt, e2]
      have h3 := t2 h
      have h4 : x.toInt.tdiv y.toInt * y.toInt ≠ x.toInt := fun z => h2 (Int64.toInt_inj.mp (by rw [e2]; exact z))
      omega
  · rw [if_pos (s1.mpr h), if_neg]
    rw [Int64.lt_iff_toInt_lt, e2]
    have h3 := t1 h
    omega
theorem dv_pos {b : Nat} (h1 : 1 ≤ b) (h10 : b ≤ 10) : 0 < 1000 * Int32.toInt64 (nI b) := by
  rw [nI_l (by omega), show (1000 : Int64) = lN 1000 from rfl, lN_mul]
  exact (lN_lt (a := 0) (by omega) (by omega)).mpr (by omega)
theorem dv_ne {b : Nat} (h1 : 1 ≤ b) (h10 : b ≤ 10) : ¬ 1000 * Int32.toInt64 (nI b) = 0 := fun z => by
  have h := dv_pos h1 h10
  rw [z] at h
  exact Int64.lt_irrefl h
theorem upd_self {s : Nat → Int32} {i : Nat} : upd s i (s i) = s := by
  funext k
  unfold upd
  by_cases h : k = i
  · subst h; rw [if_pos rfl]
  · rw [if_neg h]
theorem x_s {cI cO : ClassId} {a : Nat → Nat} {s s' : Nat → Int32} {f : Nat → Nat → Int32} {R : va_W} (h : s = s') : xW cI cO a s f R = xW cI cO a s' f R := h ▸ rfl
/-- the seed after an output, and the disturbance -/
def sdF (s : Nat → Int32) : Int32 := if s 17 = 0 then s 18 else s 18 * 1103515245 + 12345
def dsF (s : Nat → Int32) : Int32 := if s 17 = 0 then 0 else (iush (sdF s) 16 - iush (sdF s) 16 / (2 * s 17 + 1) * (2 * s 17 + 1)) - s 17
def outF (f : Nat → Nat → Int32) (j : Nat) : Int64 := fdv (sumL (fun y => Int32.toInt64 (f 6 y) * Int32.toInt64 (f 1 (j - y))) (min j 5 + 1)) 1000
def smF (s : Nat → Int32) (f : Nat → Nat → Int32) (N : Nat) : Nat → Int32 := fun y => Int64.toInt32 (fdv (Int32.toInt64 (s 3) * Int32.toInt64 (f 1 (y - 1)) + (1000 - 2 * Int32.toInt64 (s 3)) * Int32.toInt64 (f 1 y) + Int32.toInt64 (s 3) * Int32.toInt64 (f 1 (min (y + 1) (N - 1)))) 1000)
def corF (s : Nat → Int32) (f : Nat → Nat → Int32) (kn E d b : Nat) (fd : Int32) : Nat → Int32 := fun y => f 1 y + Int64.toInt32 (fdv (Int32.toInt64 (s 1) * Int32.toInt64 (f E (y + d)) * Int32.toInt64 (cwt fd b (kn - (y + d)))) (1000 * Int32.toInt64 (nI b)))
def limF (s : Nat → Int32) (f : Nat → Nat → Int32) : Nat → Int32 := fun y => o_X4_limitTo (Int32.toInt64 (f 1 y)) (s 5)
def alF (f : Nat → Nat → Int32) (N : Nat) (v : Int32) : Nat → Int32 := fun y => f 3 (rix N (nI y + v))
def erF (f : Nat → Nat → Int32) : Nat → Int32 := fun y => f 0 y - f 4 y
def nrF (f : Nat → Nat → Int32) : Nat → Int32 := sumI (fun y => iabs (erF f y))
def peF (f : Nat → Nat → Int32) : Nat → Int32 := fun y => f 0 y - f 3 y
def o_X2_nextDisturbance (s : Nat → Int32) (f : Nat → Nat → Int32) : Int32 × (Nat → Int32) := (dsF s, upd s 18 (sdF s))
set_option maxHeartbeats 4000000 in
set_option maxRecDepth 100000 in
theorem k_X2_nextDisturbance (l : Launch) (D : va_G) (cI cO : ClassId) (a : Nat → Nat) (R : va_W) (s : Nat → Int32) (f : Nat → Nat → Int32) (hz : ¬ 2 * s 17 + 1 = 0) : Mi l yX2_nextDisturbance cX2_nextDisturbance 1 (some .int) { frames := 0, cells := 0, slots := 0, locals := 0 } D (kT cI cO) (xW cI cO a s f R) [.ref (a 2)] (xW cI cO a (o_X2_nextDisturbance s f).2 f R) (o_X2_nextDisturbance s f).1 := by
  intro sz
  refine ent (by decide +kernel) (Nat.le_of_ble_eq_true rfl) ?_
  intro p e st m below meth c ls S hr hlk hnm w hsz hl
  have hl : lv_has ls 1 [(0, .ref (a 2))] := hl
  refine lv_aload_n S.1 S.2.1 dX2_nextDisturbance_0 rfl (lv_at hl 0 rfl) ?_
  refine xg_17 S w lk_RX2_19 dX2_nextDisturbance_1 ?_
  refine lv_if_ne (tgt := 9) S.1 S.2.1 dX2_nextDisturbance_4 (by decide) (fun (c_1 : ¬ (s 17) = 0) => ?_) (fun (c_1 : (s 17) = 0) => ?_)
  · refine lv_aload_n S.1 S.2.1 dX2_nextDisturbance_9 rfl (lv_at hl 0 rfl) ?_
    refine lv_aload_n S.1 S.2.1 dX2_nextDisturbance_10 rfl (lv_at hl 0 rfl) ?_
    refine xg_18 S w lk_RX2_23 dX2_nextDisturbance_11 ?_
    refine x_ldc S lk_RX2_42 dX2_nextDisturbance_14 ?_
    refine lv_imul S.1 S.2.1 dX2_nextDisturbance_16 ?_
    refine lv_sipush (v := 12345) S.1 S.2.1 dX2_nextDisturbance_17 (by decide) ?_
    refine lv_iadd S.1 S.2.1 dX2_nextDisturbance_20 ?_
    refine xp_18 S w lk_RX2_23 dX2_nextDisturbance_21 (fun H locs (w : Wd D (kT cI cO) (va_A _ _) _ _ (xW cI cO a (upd s 18 (((s 18) * 1103515245) + 12345)) f R) H locs) => ?_)
    refine lv_aload_n S.1 S.2.1 dX2_nextDisturbance_24 rfl (lv_at hl 0 rfl) ?_
    refine xg_18 S w lk_RX2_23 dX2_nextDisturbance_25 ?_
    refine x_eqi (x := (upd s 18 (((s 18) * 1103515245) + 12345)) 18) (y := ((s 18) * 1103515245) + 12345) rfl ?_
    refine lv_bipush (v := 16) S.1 S.2.1 dX2_nextDisturbance_28 (by decide) ?_
    refine lv_iushr (v := iush (((s 18) * 1103515245) + 12345) 16) S.1 S.2.1 dX2_nextDisturbance_30 rfl ?_
    refine lv_iconst (v := 2) S.1 S.2.1 dX2_nextDisturbance_31 (by decide) ?_
    refine lv_aload_n S.1 S.2.1 dX2_nextDisturbance_32 rfl (lv_at hl 0 rfl) ?_
    refine xg_17 S w lk_RX2_19 dX2_nextDisturbance_33 ?_
    refine x_eqi (x := (upd s 18 (((s 18) * 1103515245) + 12345)) 17) (y := s 17) rfl ?_
    refine lv_imul S.1 S.2.1 dX2_nextDisturbance_36 ?_
    refine lv_iconst (v := 1) S.1 S.2.1 dX2_nextDisturbance_37 (by decide) ?_
    refine lv_iadd S.1 S.2.1 dX2_nextDisturbance_38 ?_
    refine lv_irem S.1 S.2.1 dX2_nextDisturbance_39 (hz) ?_
    refine lv_aload_n S.1 S.2.1 dX2_nextDisturbance_40 rfl (lv_at hl 0 rfl) ?_
    refine xg_17 S w lk_RX2_19 dX2_nextDisturbance_41 ?_
    refine x_eqi (x := (upd s 18 (((s 18) * 1103515245) + 12345)) 17) (y := s 17) rfl ?_
    refine lv_isub S.1 S.2.1 dX2_nextDisturbance_44 ?_
    exact x_reti S w hr hlk dX2_nextDisturbance_45 (show ((iush (((s 18) * 1103515245) + 12345) 16) - (iush (((s 18) * 1103515245) + 12345) 16) / ((2 * (s 17)) + 1) * ((2 * (s 17)) + 1)) - (s 17) = (o_X2_nextDisturbance s f).1 from by simp only [o_X2_nextDisturbance, dsF, sdF, if_neg c_1]) (show xW cI cO a (upd s 18 (((s 18) * 1103515245) + 12345)) f R = xW cI cO a (o_X2_nextDisturbance s f).2 f R from by simp only [o_X2_nextDisturbance, sdF, if_neg c_1])
  · refine lv_iconst (v := 0) S.1 S.2.1 dX2_nextDisturbance_7 (by decide) ?_
    exact x_reti S w hr hlk dX2_nextDisturbance_8 (show 0 = (o_X2_nextDisturbance s f).1 from by simp only [o_X2_nextDisturbance, dsF, if_pos c_1]) (show xW cI cO a s f R = xW cI cO a (o_X2_nextDisturbance s f).2 f R from x_s (by simp only [o_X2_nextDisturbance, sdF, if_pos c_1]; exact upd_self.symm))
def o_X2_outputAt_12 (s : Nat → Int32) (f : Nat → Nat → Int32) (j : Nat) : Int64 × (Nat → Int32) := ((outF f j) + (Int32.toInt64 (dsF s)), upd s 18 (sdF s))
set_option maxHeartbeats 4000000 in
set_option maxRecDepth 100000 in
theorem j_X2_outputAt_12 {p : Program} {e : Env} {st : State} {m : MethodId} {args : Array Value} {below : List Frame} {meth : Method} {c : Code} {ws0 : va_W} {sz : Nat} (l : Launch) (D : va_G) (cI cO : ClassId) (a : Nat → Nat) (R : va_W) (s : Nat → Int32) (f : Nat → Nat → Int32) (j : Nat) (hj : j < 48) (hz : ¬ 2 * s 17 + 1 = 0) (S : CallFix p m c cX2_outputAt 7 st args wsL_law RX2) (hr : meth.sig.returnType = (some .long)) (hlk : meth.locks = false) : ∀ (n : Nat) (i : Nat) (H : Heap) (locs : List Loc) (ls : Array Slot), min j 5 + 2 ≤ i + n → i ≤ min j 5 + 1 → Wd D (kT cI cO) (va_A ws0 sz) st.heap st (xW cI cO a s f R) H locs → lv_has ls 7 [(0, .ref (a 2)), (1, .ref (a 6)), (2, .int (nI j)), (3, .long (sumL (fun y => Int32.toInt64 (f 6 y) * Int32.toInt64 (f 1 (j - y))) i)), (5, .int (nI (min j 5))), (6, .int (nI i))] → W p l e { frames := 1, cells := 0, slots := 0, locals := 25 } st m args below meth c H locs 0 0 (MQ below (mQl D (kT cI cO) ws0 sz (xW cI cO a (o_X2_outputAt_12 s f j).2 f R) (o_X2_outputAt_12 s f j).1) args st 0 0 (va_A ws0 sz)) (F0 m 12 ls []) := by
  intro n
  induction n with
  | zero => intro i H locs ls hfu hi w hl; exact absurd hfu (by omega)
  | succ n ih =>
    intro i H locs ls hfu hi w hl
    refine lv_iload S.1 S.2.1 dX2_outputAt_12 (lv_at hl 5 rfl) ?_
    refine lv_iload S.1 S.2.1 dX2_outputAt_14 (lv_at hl 4 rfl) ?_
    refine lv_icmp_gt (tgt := 44) S.1 S.2.1 dX2_outputAt_16 (by decide) (fun (c_1 : (nI (min j 5)) < (nI i)) => ?_) (fun (c_1 : ¬ ((nI (min j 5)) < (nI i))) => ?_)
    · have he : i = min j 5 + 1 := by
        have := (nI_ltI (a := min j 5) (b := i) (by omega) (by omega)).mp c_1
        omega
      subst i
      refine lv_lload_n S.1 S.2.1 dX2_outputAt_44 rfl (lv_at hl 3 rfl) ?_
      refine x_ldc2 S lk_RX2_32 dX2_outputAt_45 ?_
      refine x_Sl (As := [.long (sumL (fun y => Int32.toInt64 (f 6 y) * Int32.toInt64 (f 1 (j - y))) (min j 5 + 1)), .long 1000]) (rest := []) S w (goodS lk_RX2_34 lt_J9_floorDiv_f86c9 ln_RJ9 lc_J9_floorDiv_f86c9) hd_J9_floorDiv_f86c9 (k_J9_floorDiv_f86c9 l _ _ (xW cI cO a s f R) (sumL (fun y => Int32.toInt64 (f 6 y) * Int32.toInt64 (f 1 (j - y))) (min j 5 + 1)) 1000 (by decide)) rfl ⟨(Nat.le_of_ble_eq_true rfl), (Nat.le_of_ble_eq_true rfl)⟩ ⟨rfl, rfl⟩ hl.1 rfl (Nat.le_of_ble_eq_true rfl) ⟨Nat.zero_le _, Nat.zero_le _⟩ dX2_outputAt_48 (fun H locs (w : Wd D (kT cI cO) (va_A _ _) _ _ (xW cI cO a s f R) H locs) => ?_)
      refine x_eql (x := o_J9_floorDiv_f86c9 (sumL (fun y => Int32.toInt64 (f 6 y) * Int32.toInt64 (f 1 (j - y))) (min j 5 + 1)) 1000) (y := outF f j) (fl_eq (by decide)) ?_
      refine lv_aload_n S.1 S.2.1 dX2_outputAt_51 rfl (lv_at hl 0 rfl) ?_
      refine x_Vi (As := []) (rest := [.long (outF f j)]) S w (goodV lk_RX2_38 li_X2_nextDisturbance ls_X2_nextDisturbance ln_RX2 lc_X2_nextDisturbance) hV_X2_nextDisturbance (k_X2_nextDisturbance l D cI cO a R s f hz) rfl 2 2 rfl rfl xc_2 ⟨(Nat.le_of_ble_eq_true rfl), (Nat.le_of_ble_eq_true rfl)⟩ ⟨rfl, rfl⟩ hl.1 rfl (Nat.le_of_ble_eq_true rfl) ⟨Nat.zero_le _, Nat.zero_le _⟩ dX2_outputAt_52 (fun H locs (w : Wd D (kT cI cO) (va_A _ _) _ _ (xW cI cO a (upd s 18 (sdF s)) f R) H locs) => ?_)
      refine x_eqi (x := (o_X2_nextDisturbance s f).1) (y := dsF s) rfl ?_
      refine lv_i2l S.1 S.2.1 dX2_outputAt_55 rfl ?_
      refine lv_ladd S.1 S.2.1 dX2_outputAt_56 ?_
      exact x_retl S w hr hlk dX2_outputAt_57 (show (outF f j) + (Int32.toInt64 (dsF s)) = (o_X2_outputAt_12 s f j).1 from by simp only [o_X2_outputAt_12]) (show xW cI cO a (upd s 18 (sdF s)) f R = xW cI cO a (o_X2_outputAt_12 s f j).2 f R from by simp only [o_X2_outputAt_12])
    · have hlt : i ≤ min j 5 := Nat.le_of_not_lt (fun z => c_1 (nI_lt z (by omega)))
      refine lv_lload_n S.1 S.2.1 dX2_outputAt_19 rfl (lv_at hl 3 rfl) ?_
      refine lv_aload_n S.1 S.2.1 dX2_outputAt_20 rfl (lv_at hl 0 rfl) ?_
      refine xr_11 S w lk_RX2_9 dX2_outputAt_21 ?_
      refine lv_iload S.1 S.2.1 dX2_outputAt_24 (lv_at hl 5 rfl) ?_
      refine x_iald S w 11 0 (g := f 6) (v := (f 6) i) i (by omega) (rfl) (Nat.le_of_ble_eq_true rfl) (xc_11) rfl (rfl) dX2_outputAt_26 ?_
      refine lv_i2l S.1 S.2.1 dX2_outputAt_27 rfl ?_
      refine lv_aload_n S.1 S.2.1 dX2_outputAt_28 rfl (lv_at hl 1 rfl) ?_
      refine lv_iload_n S.1 S.2.1 dX2_outputAt_29 rfl (lv_at hl 2 rfl) ?_
      refine lv_iload S.1 S.2.1 dX2_outputAt_30 (lv_at hl 5 rfl) ?_
      refine lv_isub S.1 S.2.1 dX2_outputAt_32 ?_
      refine x_eqi (x := (nI j) - (nI i)) (y := nI (j - i)) (pk_sub (by omega)) ?_
      refine x_iald S w 6 0 (g := f 1) (v := (f 1) (j - i)) (j - i) (by omega) (rfl) (Nat.le_of_ble_eq_true rfl) (xc_6) rfl (rfl) dX2_outputAt_33 ?_
      refine lv_i2l S.1 S.2.1 dX2_outputAt_34 rfl ?_
      refine lv_lmul S.1 S.2.1 dX2_outputAt_35 ?_
      refine lv_ladd S.1 S.2.1 dX2_outputAt_36 ?_
      refine lv_lstore_n (lv' := [(3, .long ((sumL (fun y => Int32.toInt64 (f 6 y) * Int32.toInt64 (f 1 (j - y))) i) + ((Int32.toInt64 ((f 6) i)) * (Int32.toInt64 ((f 1) (j - i)))))), (0, .ref (a 2)), (1, .ref (a 6)), (2, .int (nI j)), (5, .int (nI (min j 5))), (6, .int (nI i))]) S.1 S.2.1 dX2_outputAt_37 rfl hl (by decide) rfl (fun ls hl => ?_)
      refine lv_iinc (v := nI (i + 1)) (lv' := [(6, .int (nI (i + 1))), (3, .long ((sumL (fun y => Int32.toInt64 (f 6 y) * Int32.toInt64 (f 1 (j - y))) i) + ((Int32.toInt64 ((f 6) i)) * (Int32.toInt64 ((f 1) (j - i)))))), (0, .ref (a 2)), (1, .ref (a 6)), (2, .int (nI j)), (5, .int (nI (min j 5)))]) S.1 S.2.1 dX2_outputAt_38 hl (k := 5) rfl (x_inc _) (by decide) rfl (fun ls hl => ?_)
      refine lv_goto (tgt := 12) S.1 S.2.1 dX2_outputAt_41 (by decide) ?_
      exact ih (i + 1) _ _ _ (by omega) (by omega) w (lv_sub hl [2, 3, 4, 1, 5, 0] rfl)
def o_X2_outputAt (s : Nat → Int32) (f : Nat → Nat → Int32) (j : Nat) : Int64 × (Nat → Int32) := o_X2_outputAt_12 s f j
set_option maxHeartbeats 4000000 in
set_option maxRecDepth 100000 in
theorem k_X2_outputAt (l : Launch) (D : va_G) (cI cO : ClassId) (a : Nat → Nat) (R : va_W) (s : Nat → Int32) (f : Nat → Nat → Int32) (j : Nat) (hj : j < 48) (hz : ¬ 2 * s 17 + 1 = 0) : Ml l yX2_outputAt cX2_outputAt 7 (some .long) { frames := 1, cells := 0, slots := 0, locals := 25 } D (kT cI cO) (xW cI cO a s f R) [.ref (a 2), .ref (a 6), .int (nI j)] (xW cI cO a (o_X2_outputAt s f j).2 f R) (o_X2_outputAt s f j).1 := by
  intro sz
  refine ent (by decide +kernel) (Nat.le_of_ble_eq_true rfl) ?_
  intro p e st m below meth c ls S hr hlk hnm w hsz hl
  have hl : lv_has ls 7 [(0, .ref (a 2)), (1, .ref (a 6)), (2, .int (nI j))] := hl
  refine lv_lconst (v := 0) S.1 S.2.1 dX2_outputAt_0 (by decide) ?_
  refine lv_lstore_n (lv' := [(3, .long 0), (0, .ref (a 2)), (1, .ref (a 6)), (2, .int (nI j))]) S.1 S.2.1 dX2_outputAt_1 rfl hl (by decide) rfl (fun ls hl => ?_)
  refine lv_iload_n S.1 S.2.1 dX2_outputAt_2 rfl (lv_at hl 3 rfl) ?_
  refine lv_iconst (v := 5) S.1 S.2.1 dX2_outputAt_3 (by decide) ?_
  refine x_mmin S lk_RX2_26 hl.1 (Nat.le_of_ble_eq_true rfl) (Nat.le_of_ble_eq_true rfl) (Nat.zero_le _) (Nat.zero_le _) (x := nI j) (y := 5) (v := nI (min j 5)) (by rw [show (5 : Int32) = nI 5 from rfl, Nat.min_comm]; exact mn_eq (by omega) (by omega)) dX2_outputAt_4 ?_
  refine lv_istore (lv' := [(5, .int (nI (min j 5))), (3, .long 0), (0, .ref (a 2)), (1, .ref (a 6)), (2, .int (nI j))]) S.1 S.2.1 dX2_outputAt_7 hl (by decide) rfl (fun ls hl => ?_)
  refine lv_iconst (v := 0) S.1 S.2.1 dX2_outputAt_9 (by decide) ?_
  refine lv_istore (lv' := [(6, .int 0), (5, .int (nI (min j 5))), (3, .long 0), (0, .ref (a 2)), (1, .ref (a 6)), (2, .int (nI j))]) S.1 S.2.1 dX2_outputAt_10 hl (by decide) rfl (fun ls hl => ?_)
  refine x_tol (show (o_X2_outputAt_12 s f j).1 = (o_X2_outputAt s f j).1 from by simp only [o_X2_outputAt]) (show xW cI cO a (o_X2_outputAt_12 s f j).2 f R = xW cI cO a (o_X2_outputAt s f j).2 f R from by simp only [o_X2_outputAt]) ?_
  exact j_X2_outputAt_12 l D cI cO a R s f j hj hz S hr hlk (min j 5 + 2) 0 _ _ _ (by omega) (by omega) w (lv_sub hl [3, 4, 5, 2, 1, 0] rfl)
def o_X1_add_23 (s : Nat → Int32) (f : Nat → Nat → Int32) (N : Nat) (K : Nat) (v : Int32) : (Nat → Int32) × (Nat → Nat → Int32) := (upd s 19 (nI (K + 1)), va_up (va_up (va_up f (10 + (K % 5)) (pfx N (erF f) (f (10 + (K % 5))))) 7 (upd ((va_up f (10 + (K % 5)) (pfx N (erF f) (f (10 + (K % 5))))) 7) (K % 5) (nrF f N))) 8 (upd ((va_up f (10 + (K % 5)) (pfx N (erF f) (f (10 + (K % 5))))) 8) (K % 5) v))
set_option maxHeartbeats 4000000 in
set_option maxRecDepth 100000 in
theorem j_X1_add_23 {p : Program} {e : Env} {st : State} {m : MethodId} {args : Array Value} {below : List Frame} {meth : Method} {c : Code} {ws0 : va_W} {sz : Nat} (l : Launch) (D : va_G) (cI cO : ClassId) (a : Nat → Nat) (R : va_W) (s : Nat → Int32) (f : Nat → Nat → Int32) (N : Nat) (K : Nat) (v : Int32) (h4 : 4 ≤ N) (h48 : N ≤ 48) (hK : s 19 = nI K) (hK2 : K + 1 < 1000000) (S : CallFix p m c cX1_add 8 st args wsL_law RX1) (hr : meth.sig.returnType = none) (hlk : meth.locks = false) : ∀ (n : Nat) (i : Nat) (H : Heap) (locs : List Loc) (ls : Array Slot), N + 1 ≤ i + n → i ≤ N → Wd D (kT cI cO) (va_A ws0 sz) st.heap st (xW cI cO a (upd s 19 (nI (K + 1))) (va_up f (10 + (K % 5)) (pfx i (erF f) (f (10 + (K % 5))))) R) H locs → lv_has ls 8 [(0, .ref (a 3)), (1, .ref (a 5)), (2, .ref (a 9)), (3, .int (nI N)), (4, .int v), (5, .int (nI (K % 5))), (6, .int (nrF f i)), (7, .int (nI i))] → W p l e { frames := 2, cells := 0, slots := 0, locals := 43 } st m args below meth c H locs 0 0 (MQ below (mQv D (kT cI cO) ws0 sz (xW cI cO a (o_X1_add_23 s f N K v).1 (o_X1_add_23 s f N K v).2 R)) args st 0 0 (va_A ws0 sz)) (F0 m 23 ls []) := by
  intro n
  induction n with
  | zero => intro i H locs ls hfu hi w hl; exact absurd hfu (by omega)
  | succ n ih =>
    intro i H locs ls hfu hi w hl
    refine lv_iload S.1 S.2.1 dX1_add_23 (lv_at hl 7 rfl) ?_
    refine lv_iload_n S.1 S.2.1 dX1_add_25 rfl (lv_at hl 3 rfl) ?_
    refine lv_icmp_ge (tgt := 72) S.1 S.2.1 dX1_add_26 (by decide) (fun (c_1 : (nI N) ≤ (nI i)) => ?_) (fun (c_1 : ¬ ((nI N) ≤ (nI i))) => ?_)
    · have he : i = N := by
        have := (nI_leI (a := N) (b := i) (by omega) (by omega)).mp c_1
        omega
      subst i
      refine lv_aload_n S.1 S.2.1 dX1_add_72 rfl (lv_at hl 0 rfl) ?_
      refine xr_12 S w lk_RX1_16 dX1_add_73 ?_
      refine lv_iload S.1 S.2.1 dX1_add_76 (lv_at hl 5 rfl) ?_
      refine lv_iload S.1 S.2.1 dX1_add_78 (lv_at hl 6 rfl) ?_
      refine x_iast S w 12 0 (g := (va_up f (10 + (K % 5)) (pfx N (erF f) (f (10 + (K % 5))))) 7) (K % 5) (by omega) (rfl) (Nat.le_of_ble_eq_true rfl) (xc_12) rfl (xs_7) dX1_add_80 (fun H locs (w : Wd D (kT cI cO) (va_A _ _) _ _ (xW cI cO a (upd s 19 (nI (K + 1))) (va_up (va_up f (10 + (K % 5)) (pfx N (erF f) (f (10 + (K % 5))))) 7 (upd ((va_up f (10 + (K % 5)) (pfx N (erF f) (f (10 + (K % 5))))) 7) (K % 5) (nrF f N))) R) H locs) => ?_)
      refine lv_aload_n S.1 S.2.1 dX1_add_81 rfl (lv_at hl 0 rfl) ?_
      refine xr_13 S w lk_RX1_20 dX1_add_82 ?_
      refine lv_iload S.1 S.2.1 dX1_add_85 (lv_at hl 5 rfl) ?_
      refine lv_iload S.1 S.2.1 dX1_add_87 (lv_at hl 4 rfl) ?_
      refine x_iast S w 13 0 (g := (va_up f (10 + (K % 5)) (pfx N (erF f) (f (10 + (K % 5))))) 8) (K % 5) (by omega) (rfl) (Nat.le_of_ble_eq_true rfl) (xc_13) rfl (xs_8) dX1_add_89 (fun H locs (w : Wd D (kT cI cO) (va_A _ _) _ _ (xW cI cO a (upd s 19 (nI (K + 1))) (va_up (va_up (va_up f (10 + (K % 5)) (pfx N (erF f) (f (10 + (K % 5))))) 7 (upd ((va_up f (10 + (K % 5)) (pfx N (erF f) (f (10 + (K % 5))))) 7) (K % 5) (nrF f N))) 8 (upd ((va_up f (10 + (K % 5)) (pfx N (erF f) (f (10 + (K % 5))))) 8) (K % 5) v)) R) H locs) => ?_)
      exact x_retv S w hr hlk dX1_add_90 (show xW cI cO a (upd s 19 (nI (K + 1))) (va_up (va_up (va_up f (10 + (K % 5)) (pfx N (erF f) (f (10 + (K % 5))))) 7 (upd ((va_up f (10 + (K % 5)) (pfx N (erF f) (f (10 + (K % 5))))) 7) (K % 5) (nrF f N))) 8 (upd ((va_up f (10 + (K % 5)) (pfx N (erF f) (f (10 + (K % 5))))) 8) (K % 5) v)) R = xW cI cO a (o_X1_add_23 s f N K v).1 (o_X1_add_23 s f N K v).2 R from by simp only [o_X1_add_23])
    · have hlt : i < N := Nat.lt_of_not_le (fun z => c_1 (nI_le z (by omega)))
      refine lv_aload_n S.1 S.2.1 dX1_add_29 rfl (lv_at hl 0 rfl) ?_
      refine xr_15 S w lk_RX1_13 dX1_add_30 ?_
      refine lv_iload S.1 S.2.1 dX1_add_33 (lv_at hl 5 rfl) ?_
      refine x_aald S w 15 1 (v := a (16 + (K % 5))) (K % 5) (by omega) (rfl) (Nat.le_of_ble_eq_true rfl) xc_15 rfl (if_pos (by omega)) dX1_add_35 ?_
      refine lv_iload S.1 S.2.1 dX1_add_36 (lv_at hl 7 rfl) ?_
      refine lv_aload_n S.1 S.2.1 dX1_add_38 rfl (lv_at hl 1 rfl) ?_
      refine lv_iload S.1 S.2.1 dX1_add_39 (lv_at hl 7 rfl) ?_
      refine x_iald S w 5 0 (g := (va_up f (10 + (K % 5)) (pfx i (erF f) (f (10 + (K % 5))))) 0) (v := f 0 i) i (by omega) (rfl) (Nat.le_of_ble_eq_true rfl) (xc_5) rfl (congrFun (va_un (by omega)) i) dX1_add_41 ?_
      refine lv_aload_n S.1 S.2.1 dX1_add_42 rfl (lv_at hl 2 rfl) ?_
      refine lv_iload S.1 S.2.1 dX1_add_43 (lv_at hl 7 rfl) ?_
      refine x_iald S w 9 0 (g := (va_up f (10 + (K % 5)) (pfx i (erF f) (f (10 + (K % 5))))) 4) (v := f 4 i) i (by omega) (rfl) (Nat.le_of_ble_eq_true rfl) (xc_9) rfl (congrFun (va_un (by omega)) i) dX1_add_45 ?_
      refine lv_isub S.1 S.2.1 dX1_add_46 ?_
      refine x_iast S w (16 + (K % 5)) 0 (g := (va_up f (10 + (K % 5)) (pfx i (erF f) (f (10 + (K % 5))))) (10 + (K % 5))) i (by omega) (rfl) (Nat.le_of_ble_eq_true rfl) (x_row (by first | exact slt_lt _ _ | omega)) rfl (x_rowset (by first | exact slt_lt _ _ | omega)) dX1_add_47 (fun H locs (w : Wd D (kT cI cO) (va_A _ _) _ _ (xW cI cO a (upd s 19 (nI (K + 1))) (va_up (va_up f (10 + (K % 5)) (pfx i (erF f) (f (10 + (K % 5))))) (10 + (K % 5)) (upd ((va_up f (10 + (K % 5)) (pfx i (erF f) (f (10 + (K % 5))))) (10 + (K % 5))) i ((f 0 i) - (f 4 i)))) R) H locs) => ?_)
      have w := w.to (show xW cI cO a (upd s 19 (nI (K + 1))) (va_up (va_up f (10 + (K % 5)) (pfx i (erF f) (f (10 + (K % 5))))) (10 + (K % 5)) (upd ((va_up f (10 + (K % 5)) (pfx i (erF f) (f (10 + (K % 5))))) (10 + (K % 5))) i ((f 0 i) - (f 4 i)))) R = xW cI cO a (upd s 19 (nI (K + 1))) (va_up f (10 + (K % 5)) (pfx (i + 1) (erF f) (f (10 + (K % 5))))) R from x_f (va_step rfl))
      refine lv_iload S.1 S.2.1 dX1_add_48 (lv_at hl 6 rfl) ?_
      refine lv_aload_n S.1 S.2.1 dX1_add_50 rfl (lv_at hl 0 rfl) ?_
      refine xr_15 S w lk_RX1_13 dX1_add_51 ?_
      refine lv_iload S.1 S.2.1 dX1_add_54 (lv_at hl 5 rfl) ?_
      refine x_aald S w 15 1 (v := a (16 + (K % 5))) (K % 5) (by omega) (rfl) (Nat.le_of_ble_eq_true rfl) xc_15 rfl (if_pos (by omega)) dX1_add_56 ?_
      refine lv_iload S.1 S.2.1 dX1_add_57 (lv_at hl 7 rfl) ?_
      refine x_iald S w (16 + (K % 5)) 0 (g := (va_up f (10 + (K % 5)) (pfx (i + 1) (erF f) (f (10 + (K % 5))))) (10 + (K % 5))) (v := erF f i) i (by omega) (rfl) (Nat.le_of_ble_eq_true rfl) (x_row (by first | exact slt_lt _ _ | omega)) rfl (by rw [va_us, pfx_lt _ _ (Nat.lt_succ_self i)]) dX1_add_59 ?_
      refine x_mabs S lk_RX1_37 hl.1 (Nat.le_of_ble_eq_true rfl) (Nat.le_of_ble_eq_true rfl) (Nat.zero_le _) (Nat.zero_le _) dX1_add_60 ?_
      refine lv_iadd S.1 S.2.1 dX1_add_63 ?_
      refine lv_istore (lv' := [(6, .int ((nrF f i) + (iabs (erF f i)))), (0, .ref (a 3)), (1, .ref (a 5)), (2, .ref (a 9)), (3, .int (nI N)), (4, .int v), (5, .int (nI (K % 5))), (7, .int (nI i))]) S.1 S.2.1 dX1_add_64 hl (by decide) rfl (fun ls hl => ?_)
      refine lv_iinc (v := nI (i + 1)) (lv' := [(7, .int (nI (i + 1))), (6, .int ((nrF f i) + (iabs (erF f i)))), (0, .ref (a 3)), (1, .ref (a 5)), (2, .ref (a 9)), (3, .int (nI N)), (4, .int v), (5, .int (nI (K % 5)))]) S.1 S.2.1 dX1_add_66 hl (k := 7) rfl (x_inc _) (by decide) rfl (fun ls hl => ?_)
      refine lv_goto (tgt := 23) S.1 S.2.1 dX1_add_69 (by decide) ?_
      exact ih (i + 1) _ _ _ (by omega) (by omega) w (lv_sub hl [2, 3, 4, 5, 6, 7, 1, 0] rfl)
def o_X1_add (s : Nat → Int32) (f : Nat → Nat → Int32) (N : Nat) (K : Nat) (v : Int32) : (Nat → Int32) × (Nat → Nat → Int32) := o_X1_add_23 s f N K v
set_option maxHeartbeats 4000000 in
set_option maxRecDepth 100000 in
theorem k_X1_add (l : Launch) (D : va_G) (cI cO : ClassId) (a : Nat → Nat) (R : va_W) (s : Nat → Int32) (f : Nat → Nat → Int32) (N : Nat) (K : Nat) (v : Int32) (h4 : 4 ≤ N) (h48 : N ≤ 48) (hK : s 19 = nI K) (hK2 : K + 1 < 1000000) : Mv l yX1_add cX1_add 8 none { frames := 2, cells := 0, slots := 0, locals := 43 } D (kT cI cO) (xW cI cO a s f R) [.ref (a 3), .ref (a 5), .ref (a 9), .int (nI N), .int v] (xW cI cO a (o_X1_add s f N K v).1 (o_X1_add s f N K v).2 R) := by
  intro sz
  refine ent (by decide +kernel) (Nat.le_of_ble_eq_true rfl) ?_
  intro p e st m below meth c ls S hr hlk hnm w hsz hl
  have hl : lv_has ls 8 [(0, .ref (a 3)), (1, .ref (a 5)), (2, .ref (a 9)), (3, .int (nI N)), (4, .int v)] := hl
  refine lv_aload_n S.1 S.2.1 dX1_add_0 rfl (lv_at hl 0 rfl) ?_
  refine lv_dup S.1 S.2.1 dX1_add_1 rfl ?_
  refine xg_19 S w lk_RX1_23 dX1_add_2 ?_
  refine x_eqi (x := s 19) (y := nI K) (hK) ?_
  refine lv_iconst (v := 1) S.1 S.2.1 dX1_add_5 (by decide) ?_
  refine lv_iadd S.1 S.2.1 dX1_add_6 ?_
  refine x_eqi (x := (nI K) + 1) (y := nI (K + 1)) (nI_1 K) ?_
  refine xp_19 S w lk_RX1_23 dX1_add_7 (fun H locs (w : Wd D (kT cI cO) (va_A _ _) _ _ (xW cI cO a (upd s 19 (nI (K + 1))) f R) H locs) => ?_)
  refine lv_aload_n S.1 S.2.1 dX1_add_10 rfl (lv_at hl 0 rfl) ?_
  refine lv_iconst (v := 0) S.1 S.2.1 dX1_add_11 (by decide) ?_
  refine x_Vi (As := [.int 0]) (rest := []) S w (goodV lk_RX1_33 li_X1_slot ls_X1_slot ln_RX1 lc_X1_slot) hV_X1_slot (k_X1_slot l D cI cO a R (upd s 19 (nI (K + 1))) f (K + 1) 0 0 rfl (by omega) rfl (by omega)) rfl 3 1 rfl rfl xc_3 ⟨(Nat.le_of_ble_eq_true rfl), (Nat.le_of_ble_eq_true rfl)⟩ ⟨rfl, rfl⟩ hl.1 rfl (Nat.le_of_ble_eq_true rfl) ⟨Nat.zero_le _, Nat.zero_le _⟩ dX1_add_12 (fun H locs (w : Wd D (kT cI cO) (va_A _ _) _ _ (xW cI cO a (upd s 19 (nI (K + 1))) f R) H locs) => ?_)
  refine x_eqi (x := o_X1_slot (upd s 19 (nI (K + 1))) f 0) (y := nI (slt ((upd s 19 (nI (K + 1))) 19) 0)) rfl ?_
  refine x_eqi (x := nI (slt ((upd s 19 (nI (K + 1))) 19) 0)) (y := nI (K % 5)) (slt_top (by omega)) ?_
  refine lv_istore (lv' := [(5, .int (nI (K % 5))), (0, .ref (a 3)), (1, .ref (a 5)), (2, .ref (a 9)), (3, .int (nI N)), (4, .int v)]) S.1 S.2.1 dX1_add_15 hl (by decide) rfl (fun ls hl => ?_)
  refine lv_iconst (v := 0) S.1 S.2.1 dX1_add_17 (by decide) ?_
  refine lv_istore (lv' := [(6, .int 0), (5, .int (nI (K % 5))), (0, .ref (a 3)), (1, .ref (a 5)), (2, .ref (a 9)), (3, .int (nI N)), (4, .int v)]) S.1 S.2.1 dX1_add_18 hl (by decide) rfl (fun ls hl => ?_)
  refine lv_iconst (v := 0) S.1 S.2.1 dX1_add_20 (by decide) ?_
  refine lv_istore (lv' := [(7, .int 0), (6, .int 0), (5, .int (nI (K % 5))), (0, .ref (a 3)), (1, .ref (a 5)), (2, .ref (a 9)), (3, .int (nI N)), (4, .int v)]) S.1 S.2.1 dX1_add_21 hl (by decide) rfl (fun ls hl => ?_)
  refine x_tov  (show xW cI cO a (o_X1_add_23 s f N K v).1 (o_X1_add_23 s f N K v).2 R = xW cI cO a (o_X1_add s f N K v).1 (o_X1_add s f N K v).2 R from by simp only [o_X1_add]) ?_
  exact j_X1_add_23 l D cI cO a R s f N K v h4 h48 hK hK2 S hr hlk (N + 1) 0 _ _ _ (by omega) (by omega) (w.to (show xW cI cO a (upd s 19 (nI (K + 1))) f R = xW cI cO a (upd s 19 (nI (K + 1))) (va_up f (10 + (K % 5)) (pfx 0 (erF f) (f (10 + (K % 5))))) R from x_f va_first.symm)) (lv_sub hl [3, 4, 5, 6, 7, 2, 1, 0] rfl)
def o_X4_smoothOnce_33 (s : Nat → Int32) (f : Nat → Nat → Int32) (N : Nat) : (Nat → Nat → Int32) := va_up (va_up f 2 (pfx N (smF s f N) (f 2))) 1 (pfx N (smF s f N) (f 1))
set_option maxHeartbeats 4000000 in
set_option maxRecDepth 100000 in
theorem j_X4_smoothOnce_33 {p : Program} {e : Env} {st : State} {m : MethodId} {args : Array Value} {below : List Frame} {meth : Method} {c : Code} {ws0 : va_W} {sz : Nat} (l : Launch) (D : va_G) (cI cO : ClassId) (a : Nat → Nat) (R : va_W) (s : Nat → Int32) (f : Nat → Nat → Int32) (N : Nat) (hN : s 0 = nI N) (h4 : 4 ≤ N) (h48 : N ≤ 48) (S : CallFix p m c cX4_smoothOnce 11 st args wsL_law RX4) (hr : meth.sig.returnType = none) (hlk : meth.locks = false) : ∀ (n : Nat) (i : Nat) (H : Heap) (locs : List Loc) (ls : Array Slot), N + 1 ≤ i + n → i ≤ N → Wd D (kT cI cO) (va_A ws0 sz) st.heap st (xW cI cO a s (va_up f 2 (pfx i (smF s f N) (f 2))) R) H locs → lv_has ls 11 [(0, .ref (a 0)), (1, .int (nI (N - 1))), (2, .long (Int32.toInt64 (s 3))), (4, .long (1000 - 2 * Int32.toInt64 (s 3))), (6, .int (nI i))] → W p l e { frames := 1, cells := 0, slots := 0, locals := 40 } st m args below meth c H locs 0 0 (MQ below (mQv D (kT cI cO) ws0 sz (xW cI cO a s (o_X4_smoothOnce_33 s f N) R)) args st 0 0 (va_A ws0 sz)) (F0 m 33 ls []) := by
  intro n
  induction n with
  | zero => intro i H locs ls hfu hi w hl; exact absurd hfu (by omega)
  | succ n ih =>
    intro i H locs ls hfu hi w hl
    refine lv_iload S.1 S.2.1 dX4_smoothOnce_33 (lv_at hl 4 rfl) ?_
    refine lv_iload_n S.1 S.2.1 dX4_smoothOnce_35 rfl (lv_at hl 1 rfl) ?_
    refine lv_icmp_gt (tgt := 112) S.1 S.2.1 dX4_smoothOnce_36 (by decide) (fun (c_1 : (nI (N - 1)) < (nI i)) => ?_) (fun (c_1 : ¬ ((nI (N - 1)) < (nI i))) => ?_)
    · have he : i = N := by
        have := (nI_ltI (a := N - 1) (b := i) (by omega) (by omega)).mp c_1
        omega
      subst i
      refine lv_aload_n S.1 S.2.1 dX4_smoothOnce_112 rfl (lv_at hl 0 rfl) ?_
      refine xr_7 S w lk_RX4_44 dX4_smoothOnce_113 ?_
      refine lv_iconst (v := 0) S.1 S.2.1 dX4_smoothOnce_116 (by decide) ?_
      refine lv_aload_n S.1 S.2.1 dX4_smoothOnce_117 rfl (lv_at hl 0 rfl) ?_
      refine xr_6 S w lk_RX4_41 dX4_smoothOnce_118 ?_
      refine lv_iconst (v := 0) S.1 S.2.1 dX4_smoothOnce_121 (by decide) ?_
      refine lv_aload_n S.1 S.2.1 dX4_smoothOnce_122 rfl (lv_at hl 0 rfl) ?_
      refine xr_1 S w lk_RX4_10 dX4_smoothOnce_123 ?_
      refine xg_0 S w lk_RX4_65 dX4_smoothOnce_126 ?_
      refine x_eqi (x := s 0) (y := nI N) (hN) ?_
      refine x_copy S w lk_RX4_280 hl.1 7 6 0 (f := pfx N (smF s f N) (f 2)) (g := f 1) (xc_7) (xc_6) rfl N (rfl) (h48) (h48) (Nat.le_of_ble_eq_true rfl) (Nat.le_of_ble_eq_true rfl) (Nat.le_of_ble_eq_true rfl) xs_1 dX4_smoothOnce_129 (fun H locs (w : Wd D (kT cI cO) (va_A _ _) _ _ (xW cI cO a s (va_up (va_up f 2 (pfx N (smF s f N) (f 2))) 1 (va_cpy (pfx N (smF s f N) (f 2)) (f 1) 0 0 N)) R) H locs) => ?_)
      have w := w.to (show xW cI cO a s (va_up (va_up f 2 (pfx N (smF s f N) (f 2))) 1 (va_cpy (pfx N (smF s f N) (f 2)) (f 1) 0 0 N)) R = xW cI cO a s (va_up (va_up f 2 (pfx N (smF s f N) (f 2))) 1 (pfx N (smF s f N) (f 1))) R from x_f (by rw [cpy_pfx]))
      exact x_retv S w hr hlk dX4_smoothOnce_132 (show xW cI cO a s (va_up (va_up f 2 (pfx N (smF s f N) (f 2))) 1 (pfx N (smF s f N) (f 1))) R = xW cI cO a s (o_X4_smoothOnce_33 s f N) R from by simp only [o_X4_smoothOnce_33])
    · have hlt : i < N := by
        have : i ≤ N - 1 := Nat.le_of_not_lt (fun z => c_1 (nI_lt z (by omega)))
        omega
      refine lv_aload_n S.1 S.2.1 dX4_smoothOnce_39 rfl (lv_at hl 0 rfl) ?_
      refine xr_6 S w lk_RX4_41 dX4_smoothOnce_40 ?_
      refine lv_iconst (v := 0) S.1 S.2.1 dX4_smoothOnce_43 (by decide) ?_
      refine lv_iload S.1 S.2.1 dX4_smoothOnce_44 (lv_at hl 4 rfl) ?_
      refine lv_iconst (v := 1) S.1 S.2.1 dX4_smoothOnce_46 (by decide) ?_
      refine lv_isub S.1 S.2.1 dX4_smoothOnce_47 ?_
      refine x_mmax S lk_RX4_274 hl.1 (Nat.le_of_ble_eq_true rfl) (Nat.le_of_ble_eq_true rfl) (Nat.zero_le _) (Nat.zero_le _) (x := 0) (y := (nI i) - 1) (v := nI (i - 1)) (mx_eq (by omega)) dX4_smoothOnce_48 ?_
      refine x_iald S w 6 0 (g := f 1) (v := (f 1) (i - 1)) (i - 1) (by omega) (rfl) (Nat.le_of_ble_eq_true rfl) (xc_6) rfl (rfl) dX4_smoothOnce_51 ?_
      refine lv_i2l S.1 S.2.1 dX4_smoothOnce_52 rfl ?_
      refine lv_lstore (lv' := [(7, .long (Int32.toInt64 ((f 1) (i - 1)))), (0, .ref (a 0)), (1, .int (nI (N - 1))), (2, .long (Int32.toInt64 (s 3))), (4, .long (1000 - 2 * Int32.toInt64 (s 3))), (6, .int (nI i))]) S.1 S.2.1 dX4_smoothOnce_53 hl (by decide) rfl (fun ls hl => ?_)
      refine lv_aload_n S.1 S.2.1 dX4_smoothOnce_55 rfl (lv_at hl 1 rfl) ?_
      refine xr_6 S w lk_RX4_41 dX4_smoothOnce_56 ?_
      refine lv_iload_n S.1 S.2.1 dX4_smoothOnce_59 rfl (lv_at hl 2 rfl) ?_
      refine lv_iload S.1 S.2.1 dX4_smoothOnce_60 (lv_at hl 5 rfl) ?_
      refine lv_iconst (v := 1) S.1 S.2.1 dX4_smoothOnce_62 (by decide) ?_
      refine lv_iadd S.1 S.2.1 dX4_smoothOnce_63 ?_
      refine x_eqi (x := (nI i) + 1) (y := nI (i + 1)) (nI_1 i) ?_
      refine x_mmin S lk_RX4_271 hl.1 (Nat.le_of_ble_eq_true rfl) (Nat.le_of_ble_eq_true rfl) (Nat.zero_le _) (Nat.zero_le _) (x := nI (N - 1)) (y := nI (i + 1)) (v := nI (min (i + 1) (N - 1))) (mn_eq (by omega) (by omega)) dX4_smoothOnce_64 ?_
      refine x_iald S w 6 0 (g := f 1) (v := (f 1) (min (i + 1) (N - 1))) (min (i + 1) (N - 1)) (by omega) (rfl) (Nat.le_of_ble_eq_true rfl) (xc_6) rfl (rfl) dX4_smoothOnce_67 ?_
      refine lv_i2l S.1 S.2.1 dX4_smoothOnce_68 rfl ?_
      refine lv_lstore (lv' := [(9, .long (Int32.toInt64 ((f 1) (min (i + 1) (N - 1))))), (7, .long (Int32.toInt64 ((f 1) (i - 1)))), (0, .ref (a 0)), (1, .int (nI (N - 1))), (2, .long (Int32.toInt64 (s 3))), (4, .long (1000 - 2 * Int32.toInt64 (s 3))), (6, .int (nI i))]) S.1 S.2.1 dX4_smoothOnce_69 hl (by decide) rfl (fun ls hl => ?_)
      refine lv_aload_n S.1 S.2.1 dX4_smoothOnce_71 rfl (lv_at hl 2 rfl) ?_
      refine xr_7 S w lk_RX4_44 dX4_smoothOnce_72 ?_
      refine lv_iload S.1 S.2.1 dX4_smoothOnce_75 (lv_at hl 6 rfl) ?_
      refine lv_lload_n S.1 S.2.1 dX4_smoothOnce_77 rfl (lv_at hl 4 rfl) ?_
      refine lv_lload S.1 S.2.1 dX4_smoothOnce_78 (lv_at hl 1 rfl) ?_
      refine lv_lmul S.1 S.2.1 dX4_smoothOnce_80 ?_
      refine lv_lload S.1 S.2.1 dX4_smoothOnce_81 (lv_at hl 5 rfl) ?_
      refine lv_aload_n S.1 S.2.1 dX4_smoothOnce_83 rfl (lv_at hl 2 rfl) ?_
      refine xr_6 S w lk_RX4_41 dX4_smoothOnce_84 ?_
      refine lv_iload S.1 S.2.1 dX4_smoothOnce_87 (lv_at hl 6 rfl) ?_
      refine x_iald S w 6 0 (g := f 1) (v := (f 1) i) i (by omega) (rfl) (Nat.le_of_ble_eq_true rfl) (xc_6) rfl (rfl) dX4_smoothOnce_89 ?_
      refine lv_i2l S.1 S.2.1 dX4_smoothOnce_90 rfl ?_
      refine lv_lmul S.1 S.2.1 dX4_smoothOnce_91 ?_
      refine lv_ladd S.1 S.2.1 dX4_smoothOnce_92 ?_
      refine lv_lload_n S.1 S.2.1 dX4_smoothOnce_93 rfl (lv_at hl 4 rfl) ?_
      refine lv_lload S.1 S.2.1 dX4_smoothOnce_94 (lv_at hl 0 rfl) ?_
      refine lv_lmul S.1 S.2.1 dX4_smoothOnce_96 ?_
      refine lv_ladd S.1 S.2.1 dX4_smoothOnce_97 ?_
      refine x_ldc2 S lk_RX4_286 dX4_smoothOnce_98 ?_
      refine x_Sl (As := [.long ((((Int32.toInt64 (s 3)) * (Int32.toInt64 ((f 1) (i - 1)))) + ((1000 - 2 * Int32.toInt64 (s 3)) * (Int32.toInt64 ((f 1) i)))) + ((Int32.toInt64 (s 3)) * (Int32.toInt64 ((f 1) (min (i + 1) (N - 1)))))), .long 1000]) (rest := [.int (nI i), .ref (a 7)]) S w (goodS lk_RX4_288 lt_J9_floorDiv_f86c9 ln_RJ9 lc_J9_floorDiv_f86c9) hd_J9_floorDiv_f86c9 (k_J9_floorDiv_f86c9 l _ _ (xW cI cO a s (va_up f 2 (pfx i (smF s f N) (f 2))) R) ((((Int32.toInt64 (s 3)) * (Int32.toInt64 ((f 1) (i - 1)))) + ((1000 - 2 * Int32.toInt64 (s 3)) * (Int32.toInt64 ((f 1) i)))) + ((Int32.toInt64 (s 3)) * (Int32.toInt64 ((f 1) (min (i + 1) (N - 1)))))) 1000 (by decide)) rfl ⟨(Nat.le_of_ble_eq_true rfl), (Nat.le_of_ble_eq_true rfl)⟩ ⟨rfl, rfl⟩ hl.1 rfl (Nat.le_of_ble_eq_true rfl) ⟨Nat.zero_le _, Nat.zero_le _⟩ dX4_smoothOnce_101 (fun H locs (w : Wd D (kT cI cO) (va_A _ _) _ _ (xW cI cO a s (va_up f 2 (pfx i (smF s f N) (f 2))) R) H locs) => ?_)
      refine x_eql (x := o_J9_floorDiv_f86c9 ((((Int32.toInt64 (s 3)) * (Int32.toInt64 ((f 1) (i - 1)))) + ((1000 - 2 * Int32.toInt64 (s 3)) * (Int32.toInt64 ((f 1) i)))) + ((Int32.toInt64 (s 3)) * (Int32.toInt64 ((f 1) (min (i + 1) (N - 1)))))) 1000) (y := fdv ((((Int32.toInt64 (s 3)) * (Int32.toInt64 ((f 1) (i - 1)))) + ((1000 - 2 * Int32.toInt64 (s 3)) * (Int32.toInt64 ((f 1) i)))) + ((Int32.toInt64 (s 3)) * (Int32.toInt64 ((f 1) (min (i + 1) (N - 1)))))) 1000) (fl_eq (by decide)) ?_
      refine lv_l2i S.1 S.2.1 dX4_smoothOnce_104 rfl ?_
      refine x_iast S w 7 0 (g := pfx i (smF s f N) (f 2)) i (by omega) (rfl) (Nat.le_of_ble_eq_true rfl) (xc_7) rfl (xs_2) dX4_smoothOnce_105 (fun H locs (w : Wd D (kT cI cO) (va_A _ _) _ _ (xW cI cO a s (va_up (va_up f 2 (pfx i (smF s f N) (f 2))) 2 (upd (pfx i (smF s f N) (f 2)) i (Int64.toInt32 (fdv ((((Int32.toInt64 (s 3)) * (Int32.toInt64 ((f 1) (i - 1)))) + ((1000 - 2 * Int32.toInt64 (s 3)) * (Int32.toInt64 ((f 1) i)))) + ((Int32.toInt64 (s 3)) * (Int32.toInt64 ((f 1) (min (i + 1) (N - 1)))))) 1000)))) R) H locs) => ?_)
      have w := w.to (show xW cI cO a s (va_up (va_up f 2 (pfx i (smF s f N) (f 2))) 2 (upd (pfx i (smF s f N) (f 2)) i (Int64.toInt32 (fdv ((((Int32.toInt64 (s 3)) * (Int32.toInt64 ((f 1) (i - 1)))) + ((1000 - 2 * Int32.toInt64 (s 3)) * (Int32.toInt64 ((f 1) i)))) + ((Int32.toInt64 (s 3)) * (Int32.toInt64 ((f 1) (min (i + 1) (N - 1)))))) 1000)))) R = xW cI cO a s (va_up f 2 (pfx (i + 1) (smF s f N) (f 2))) R from x_f (va_step' rfl))
      refine lv_iinc (v := nI (i + 1)) (lv' := [(6, .int (nI (i + 1))), (9, .long (Int32.toInt64 ((f 1) (min (i + 1) (N - 1))))), (7, .long (Int32.toInt64 ((f 1) (i - 1)))), (0, .ref (a 0)), (1, .int (nI (N - 1))), (2, .long (Int32.toInt64 (s 3))), (4, .long (1000 - 2 * Int32.toInt64 (s 3)))]) S.1 S.2.1 dX4_smoothOnce_106 hl (k := 6) rfl (x_inc _) (by decide) rfl (fun ls hl => ?_)
      refine lv_goto (tgt := 33) S.1 S.2.1 dX4_smoothOnce_109 (by decide) ?_
      exact ih (i + 1) _ _ _ (by omega) (by omega) w (lv_sub hl [3, 4, 5, 6, 0] rfl)
def o_X4_smoothOnce (s : Nat → Int32) (f : Nat → Nat → Int32) (N : Nat) : (Nat → Nat → Int32) := o_X4_smoothOnce_33 s f N
set_option maxHeartbeats 4000000 in
set_option maxRecDepth 100000 in
theorem k_X4_smoothOnce (l : Launch) (D : va_G) (cI cO : ClassId) (a : Nat → Nat) (R : va_W) (s : Nat → Int32) (f : Nat → Nat → Int32) (N : Nat) (hN : s 0 = nI N) (h4 : 4 ≤ N) (h48 : N ≤ 48) : Mv l yX4_smoothOnce cX4_smoothOnce 11 none { frames := 1, cells := 0, slots := 0, locals := 40 } D (kT cI cO) (xW cI cO a s f R) [.ref (a 0)] (xW cI cO a s (o_X4_smoothOnce s f N) R) := by
  intro sz
  refine ent (by decide +kernel) (Nat.le_of_ble_eq_true rfl) ?_
  intro p e st m below meth c ls S hr hlk hnm w hsz hl
  have hl : lv_has ls 11 [(0, .ref (a 0))] := hl
  refine lv_aload_n S.1 S.2.1 dX4_smoothOnce_0 rfl (lv_at hl 0 rfl) ?_
  refine xr_1 S w lk_RX4_10 dX4_smoothOnce_1 ?_
  refine xg_0 S w lk_RX4_65 dX4_smoothOnce_4 ?_
  refine x_eqi (x := s 0) (y := nI N) (hN) ?_
  refine lv_iconst (v := 1) S.1 S.2.1 dX4_smoothOnce_7 (by decide) ?_
  refine lv_isub S.1 S.2.1 dX4_smoothOnce_8 ?_
  refine x_eqi (x := (nI N) - 1) (y := nI (N - 1)) (pk_sub (b := 1) (by omega)) ?_
  refine lv_istore_n (lv' := [(1, .int (nI (N - 1))), (0, .ref (a 0))]) S.1 S.2.1 dX4_smoothOnce_9 rfl hl (by decide) rfl (fun ls hl => ?_)
  refine lv_aload_n S.1 S.2.1 dX4_smoothOnce_10 rfl (lv_at hl 1 rfl) ?_
  refine xr_1 S w lk_RX4_10 dX4_smoothOnce_11 ?_
  refine xg_3 S w lk_RX4_86 dX4_smoothOnce_14 ?_
  refine lv_i2l S.1 S.2.1 dX4_smoothOnce_17 rfl ?_
  refine lv_lstore_n (lv' := [(2, .long (Int32.toInt64 (s 3))), (1, .int (nI (N - 1))), (0, .ref (a 0))]) S.1 S.2.1 dX4_smoothOnce_18 rfl hl (by decide) rfl (fun ls hl => ?_)
  refine x_ldc2 S lk_RX4_286 dX4_smoothOnce_19 ?_
  refine x_ldc2 S lk_RX4_294 dX4_smoothOnce_22 ?_
  refine lv_lload_n S.1 S.2.1 dX4_smoothOnce_25 rfl (lv_at hl 0 rfl) ?_
  refine lv_lmul S.1 S.2.1 dX4_smoothOnce_26 ?_
  refine lv_lsub S.1 S.2.1 dX4_smoothOnce_27 ?_
  refine lv_lstore (lv' := [(4, .long (1000 - (2 * (Int32.toInt64 (s 3))))), (2, .long (Int32.toInt64 (s 3))), (1, .int (nI (N - 1))), (0, .ref (a 0))]) S.1 S.2.1 dX4_smoothOnce_28 hl (by decide) rfl (fun ls hl => ?_)
  refine lv_iconst (v := 0) S.1 S.2.1 dX4_smoothOnce_30 (by decide) ?_
  refine lv_istore (lv' := [(6, .int 0), (4, .long (1000 - (2 * (Int32.toInt64 (s 3))))), (2, .long (Int32.toInt64 (s 3))), (1, .int (nI (N - 1))), (0, .ref (a 0))]) S.1 S.2.1 dX4_smoothOnce_31 hl (by decide) rfl (fun ls hl => ?_)
  refine x_tov  (show xW cI cO a s (o_X4_smoothOnce_33 s f N) R = xW cI cO a s (o_X4_smoothOnce s f N) R from by simp only [o_X4_smoothOnce]) ?_
  exact j_X4_smoothOnce_33 l D cI cO a R s f N hN h4 h48 S hr hlk (N + 1) 0 _ _ _ (by omega) (by omega) (w.to (show xW cI cO a s f R = xW cI cO a s (va_up f 2 (pfx 0 (smF s f N) (f 2))) R from x_f va_first.symm)) (lv_sub hl [4, 3, 2, 1, 0] rfl)
def o_X4_correct_141 (s : Nat → Int32) (f : Nat → Nat → Int32) (N : Nat) (kn : Nat) (E : Nat) (d : Nat) (b : Nat) (mm : Nat) (fd : Int32) : (Nat → Nat → Int32) := va_up (itk (fun _ φ => o_X4_smoothOnce s φ N) mm (va_up f 1 (pfx (kn - d) (corF s f kn E d b fd) (f 1)))) 1 (pfx N (limF s (itk (fun _ φ => o_X4_smoothOnce s φ N) mm (va_up f 1 (pfx (kn - d) (corF s f kn E d b fd) (f 1))))) ((itk (fun _ φ => o_X4_smoothOnce s φ N) mm (va_up f 1 (pfx (kn - d) (corF s f kn E d b fd) (f 1)))) 1))
set_option maxHeartbeats 4000000 in
set_option maxRecDepth 100000 in
theorem j_X4_correct_141 {p : Program} {e : Env} {st : State} {m : MethodId} {args : Array Value} {below : List Frame} {meth : Method} {c : Code} {ws0 : va_W} {sz : Nat} (l : Launch) (D : va_G) (cI cO : ClassId) (a : Nat → Nat) (R : va_W) (s : Nat → Int32) (f : Nat → Nat → Int32) (N : Nat) (kn : Nat) (ea : Nat) (iq : Nat) (E : Nat) (d : Nat) (b : Nat) (mm : Nat) (fd : Int32) (hN : s 0 = nI N) (h4 : 4 ≤ N) (h48 : N ≤ 48) (hd : s 2 = nI d) (hd8 : d ≤ 8) (hb : s 6 = nI b) (hb1 : 1 ≤ b) (hb10 : b ≤ 10) (hm : s 4 = nI mm) (hm4 : mm ≤ 4) (hkn : kn ≤ N) (hq : ∀ (σ : Nat → Int32) (φ : Nat → Nat → Int32), (xW cI cO a σ φ R)[iq]? = some (ea, .inl (cI, 48, .inl (φ E)))) (hE1 : E ≠ 1) (S : CallFix p m c cX4_correct 9 st args wsL_law RX4) (hr : meth.sig.returnType = none) (hlk : meth.locks = false) : ∀ (n : Nat) (i : Nat) (H : Heap) (locs : List Loc) (ls : Array Slot), N + 1 ≤ i + n → i ≤ N → Wd D (kT cI cO) (va_A ws0 sz) st.heap st (xW cI cO a s (va_up (itk (fun _ φ => o_X4_smoothOnce s φ N) mm (va_up f 1 (pfx (kn - d) (corF s f kn E d b fd) (f 1)))) 1 (pfx i (limF s (itk (fun _ φ => o_X4_smoothOnce s φ N) mm (va_up f 1 (pfx (kn - d) (corF s f kn E d b fd) (f 1))))) ((itk (fun _ φ => o_X4_smoothOnce s φ N) mm (va_up f 1 (pfx (kn - d) (corF s f kn E d b fd) (f 1)))) 1))) R) H locs → lv_has ls 9 [(0, .ref (a 0)), (4, .int (nI i))] → W p l e { frames := 2, cells := 0, slots := 0, locals := 70 } st m args below meth c H locs 0 0 (MQ below (mQv D (kT cI cO) ws0 sz (xW cI cO a s (o_X4_correct_141 s f N kn E d b mm fd) R)) args st 0 0 (va_A ws0 sz)) (F0 m 141 ls []) := by
  intro n
  induction n with
  | zero => intro i H locs ls hfu hi w hl; exact absurd hfu (by omega)
  | succ n ih =>
    intro i H locs ls hfu hi w hl
    refine lv_iload S.1 S.2.1 dX4_correct_141 (lv_at hl 1 rfl) ?_
    refine lv_aload_n S.1 S.2.1 dX4_correct_143 rfl (lv_at hl 0 rfl) ?_
    refine xr_1 S w lk_RX4_10 dX4_correct_144 ?_
    refine xg_0 S w lk_RX4_65 dX4_correct_147 ?_
    refine x_eqi (x := s 0) (y := nI N) (hN) ?_
    refine lv_icmp_ge (tgt := 184) S.1 S.2.1 dX4_correct_150 (by decide) (fun (c_1 : (nI N) ≤ (nI i)) => ?_) (fun (c_1 : ¬ ((nI N) ≤ (nI i))) => ?_)
    · have he : i = N := by
        have := (nI_leI (a := N) (b := i) (by omega) (by omega)).mp c_1
        omega
      subst i
      exact x_retv S w hr hlk dX4_correct_184 (show xW cI cO a s (va_up (itk (fun _ φ => o_X4_smoothOnce s φ N) mm (va_up f 1 (pfx (kn - d) (corF s f kn E d b fd) (f 1)))) 1 (pfx N (limF s (itk (fun _ φ => o_X4_smoothOnce s φ N) mm (va_up f 1 (pfx (kn - d) (corF s f kn E d b fd) (f 1))))) ((itk (fun _ φ => o_X4_smoothOnce s φ N) mm (va_up f 1 (pfx (kn - d) (corF s f kn E d b fd) (f 1)))) 1))) R = xW cI cO a s (o_X4_correct_141 s f N kn E d b mm fd) R from by simp only [o_X4_correct_141])
    · have hlt : i < N := Nat.lt_of_not_le (fun z => c_1 (nI_le z (by omega)))
      refine lv_aload_n S.1 S.2.1 dX4_correct_153 rfl (lv_at hl 0 rfl) ?_
      refine xr_6 S w lk_RX4_41 dX4_correct_154 ?_
      refine lv_iload S.1 S.2.1 dX4_correct_157 (lv_at hl 1 rfl) ?_
      refine lv_aload_n S.1 S.2.1 dX4_correct_159 rfl (lv_at hl 0 rfl) ?_
      refine xr_6 S w lk_RX4_41 dX4_correct_160 ?_
      refine lv_iload S.1 S.2.1 dX4_correct_163 (lv_at hl 1 rfl) ?_
      refine x_iald S w 6 0 (g := pfx i (limF s (itk (fun _ φ => o_X4_smoothOnce s φ N) mm (va_up f 1 (pfx (kn - d) (corF s f kn E d b fd) (f 1))))) ((itk (fun _ φ => o_X4_smoothOnce s φ N) mm (va_up f 1 (pfx (kn - d) (corF s f kn E d b fd) (f 1)))) 1)) (v := (itk (fun _ φ => o_X4_smoothOnce s φ N) mm (va_up f 1 (pfx (kn - d) (corF s f kn E d b fd) (f 1)))) 1 i) i (by omega) (rfl) (Nat.le_of_ble_eq_true rfl) (xc_6) rfl (pfx_ge _ _ (Nat.le_refl i)) dX4_correct_165 ?_
      refine lv_i2l S.1 S.2.1 dX4_correct_166 rfl ?_
      refine lv_aload_n S.1 S.2.1 dX4_correct_167 rfl (lv_at hl 0 rfl) ?_
      refine xr_1 S w lk_RX4_10 dX4_correct_168 ?_
      refine xg_5 S w lk_RX4_93 dX4_correct_171 ?_
      refine x_Si (As := [.long (Int32.toInt64 ((itk (fun _ φ => o_X4_smoothOnce s φ N) mm (va_up f 1 (pfx (kn - d) (corF s f kn E d b fd) (f 1)))) 1 i)), .int (s 5)]) (rest := [.int (nI i), .ref (a 6)]) S w (goodS lk_RX4_240 lt_X4_limitTo ln_RX4 lc_X4_limitTo) hd_X4_limitTo (k_X4_limitTo l _ _ (xW cI cO a s (va_up (itk (fun _ φ => o_X4_smoothOnce s φ N) mm (va_up f 1 (pfx (kn - d) (corF s f kn E d b fd) (f 1)))) 1 (pfx i (limF s (itk (fun _ φ => o_X4_smoothOnce s φ N) mm (va_up f 1 (pfx (kn - d) (corF s f kn E d b fd) (f 1))))) ((itk (fun _ φ => o_X4_smoothOnce s φ N) mm (va_up f 1 (pfx (kn - d) (corF s f kn E d b fd) (f 1)))) 1))) R) (Int32.toInt64 ((itk (fun _ φ => o_X4_smoothOnce s φ N) mm (va_up f 1 (pfx (kn - d) (corF s f kn E d b fd) (f 1)))) 1 i)) (s 5)) rfl ⟨(Nat.le_of_ble_eq_true rfl), (Nat.le_of_ble_eq_true rfl)⟩ ⟨rfl, rfl⟩ hl.1 rfl (Nat.le_of_ble_eq_true rfl) ⟨Nat.zero_le _, Nat.zero_le _⟩ dX4_correct_174 (fun H locs (w : Wd D (kT cI cO) (va_A _ _) _ _ (xW cI cO a s (va_up (itk (fun _ φ => o_X4_smoothOnce s φ N) mm (va_up f 1 (pfx (kn - d) (corF s f kn E d b fd) (f 1)))) 1 (pfx i (limF s (itk (fun _ φ => o_X4_smoothOnce s φ N) mm (va_up f 1 (pfx (kn - d) (corF s f kn E d b fd) (f 1))))) ((itk (fun _ φ => o_X4_smoothOnce s φ N) mm (va_up f 1 (pfx (kn - d) (corF s f kn E d b fd) (f 1)))) 1))) R) H locs) => ?_)
      refine x_iast S w 6 0 (g := pfx i (limF s (itk (fun _ φ => o_X4_smoothOnce s φ N) mm (va_up f 1 (pfx (kn - d) (corF s f kn E d b fd) (f 1))))) ((itk (fun _ φ => o_X4_smoothOnce s φ N) mm (va_up f 1 (pfx (kn - d) (corF s f kn E d b fd) (f 1)))) 1)) i (by omega) (rfl) (Nat.le_of_ble_eq_true rfl) (xc_6) rfl (xs_1) dX4_correct_177 (fun H locs (w : Wd D (kT cI cO) (va_A _ _) _ _ (xW cI cO a s (va_up (va_up (itk (fun _ φ => o_X4_smoothOnce s φ N) mm (va_up f 1 (pfx (kn - d) (corF s f kn E d b fd) (f 1)))) 1 (pfx i (limF s (itk (fun _ φ => o_X4_smoothOnce s φ N) mm (va_up f 1 (pfx (kn - d) (corF s f kn E d b fd) (f 1))))) ((itk (fun _ φ => o_X4_smoothOnce s φ N) mm (va_up f 1 (pfx (kn - d) (corF s f kn E d b fd) (f 1)))) 1))) 1 (upd (pfx i (limF s (itk (fun _ φ => o_X4_smoothOnce s φ N) mm (va_up f 1 (pfx (kn - d) (corF s f kn E d b fd) (f 1))))) ((itk (fun _ φ => o_X4_smoothOnce s φ N) mm (va_up f 1 (pfx (kn - d) (corF s f kn E d b fd) (f 1)))) 1)) i (o_X4_limitTo (Int32.toInt64 ((itk (fun _ φ => o_X4_smoothOnce s φ N) mm (va_up f 1 (pfx (kn - d) (corF s f kn E d b fd) (f 1)))) 1 i)) (s 5)))) R) H locs) => ?_)
      have w := w.to (show xW cI cO a s (va_up (va_up (itk (fun _ φ => o_X4_smoothOnce s φ N) mm (va_up f 1 (pfx (kn - d) (corF s f kn E d b fd) (f 1)))) 1 (pfx i (limF s (itk (fun _ φ => o_X4_smoothOnce s φ N) mm (va_up f 1 (pfx (kn - d) (corF s f kn E d b fd) (f 1))))) ((itk (fun _ φ => o_X4_smoothOnce s φ N) mm (va_up f 1 (pfx (kn - d) (corF s f kn E d b fd) (f 1)))) 1))) 1 (upd (pfx i (limF s (itk (fun _ φ => o_X4_smoothOnce s φ N) mm (va_up f 1 (pfx (kn - d) (corF s f kn E d b fd) (f 1))))) ((itk (fun _ φ => o_X4_smoothOnce s φ N) mm (va_up f 1 (pfx (kn - d) (corF s f kn E d b fd) (f 1)))) 1)) i (o_X4_limitTo (Int32.toInt64 ((itk (fun _ φ => o_X4_smoothOnce s φ N) mm (va_up f 1 (pfx (kn - d) (corF s f kn E d b fd) (f 1)))) 1 i)) (s 5)))) R = xW cI cO a s (va_up (itk (fun _ φ => o_X4_smoothOnce s φ N) mm (va_up f 1 (pfx (kn - d) (corF s f kn E d b fd) (f 1)))) 1 (pfx (i + 1) (limF s (itk (fun _ φ => o_X4_smoothOnce s φ N) mm (va_up f 1 (pfx (kn - d) (corF s f kn E d b fd) (f 1))))) ((itk (fun _ φ => o_X4_smoothOnce s φ N) mm (va_up f 1 (pfx (kn - d) (corF s f kn E d b fd) (f 1)))) 1))) R from x_f (va_step' rfl))
      refine lv_iinc (v := nI (i + 1)) (lv' := [(4, .int (nI (i + 1))), (0, .ref (a 0))]) S.1 S.2.1 dX4_correct_178 hl (k := 1) rfl (x_inc _) (by decide) rfl (fun ls hl => ?_)
      refine lv_goto (tgt := 141) S.1 S.2.1 dX4_correct_181 (by decide) ?_
      exact ih (i + 1) _ _ _ (by omega) (by omega) w (lv_sub hl [1, 0] rfl)
def o_X4_correct_116 (s : Nat → Int32) (f : Nat → Nat → Int32) (N : Nat) (kn : Nat) (E : Nat) (d : Nat) (b : Nat) (mm : Nat) (fd : Int32) : (Nat → Nat → Int32) := o_X4_correct_141 s f N kn E d b mm fd
set_option maxHeartbeats 4000000 in
set_option maxRecDepth 100000 in
theorem j_X4_correct_116 {p : Program} {e : Env} {st : State} {m : MethodId} {args : Array Value} {below : List Frame} {meth : Method} {c : Code} {ws0 : va_W} {sz : Nat} (l : Launch) (D : va_G) (cI cO : ClassId) (a : Nat → Nat) (R : va_W) (s : Nat → Int32) (f : Nat → Nat → Int32) (N : Nat) (kn : Nat) (ea : Nat) (iq : Nat) (E : Nat) (d : Nat) (b : Nat) (mm : Nat) (fd : Int32) (hN : s 0 = nI N) (h4 : 4 ≤ N) (h48 : N ≤ 48) (hd : s 2 = nI d) (hd8 : d ≤ 8) (hb : s 6 = nI b) (hb1 : 1 ≤ b) (hb10 : b ≤ 10) (hm : s 4 = nI mm) (hm4 : mm ≤ 4) (hkn : kn ≤ N) (hq : ∀ (σ : Nat → Int32) (φ : Nat → Nat → Int32), (xW cI cO a σ φ R)[iq]? = some (ea, .inl (cI, 48, .inl (φ E)))) (hE1 : E ≠ 1) (S : CallFix p m c cX4_correct 9 st args wsL_law RX4) (hr : meth.sig.returnType = none) (hlk : meth.locks = false) : ∀ (n : Nat) (i : Nat) (H : Heap) (locs : List Loc) (ls : Array Slot), mm + 1 ≤ i + n → i ≤ mm → Wd D (kT cI cO) (va_A ws0 sz) st.heap st (xW cI cO a s (itk (fun _ φ => o_X4_smoothOnce s φ N) i (va_up f 1 (pfx (kn - d) (corF s f kn E d b fd) (f 1)))) R) H locs → lv_has ls 9 [(0, .ref (a 0)), (4, .int (nI i))] → W p l e { frames := 2, cells := 0, slots := 0, locals := 70 } st m args below meth c H locs 0 0 (MQ below (mQv D (kT cI cO) ws0 sz (xW cI cO a s (o_X4_correct_116 s f N kn E d b mm fd) R)) args st 0 0 (va_A ws0 sz)) (F0 m 116 ls []) := by
  intro n
  induction n with
  | zero => intro i H locs ls hfu hi w hl; exact absurd hfu (by omega)
  | succ n ih =>
    intro i H locs ls hfu hi w hl
    refine lv_iload S.1 S.2.1 dX4_correct_116 (lv_at hl 1 rfl) ?_
    refine lv_aload_n S.1 S.2.1 dX4_correct_118 rfl (lv_at hl 0 rfl) ?_
    refine xr_1 S w lk_RX4_10 dX4_correct_119 ?_
    refine xg_4 S w lk_RX4_89 dX4_correct_122 ?_
    refine x_eqi (x := s 4) (y := nI mm) (hm) ?_
    refine lv_icmp_ge (tgt := 138) S.1 S.2.1 dX4_correct_125 (by decide) (fun (c_2 : (nI mm) ≤ (nI i)) => ?_) (fun (c_2 : ¬ ((nI mm) ≤ (nI i))) => ?_)
    · have he : i = mm := by
        have := (nI_leI (a := mm) (b := i) (by omega) (by omega)).mp c_2
        omega
      subst i
      refine lv_iconst (v := 0) S.1 S.2.1 dX4_correct_138 (by decide) ?_
      refine lv_istore (lv' := [(4, .int 0), (0, .ref (a 0))]) S.1 S.2.1 dX4_correct_139 hl (by decide) rfl (fun ls hl => ?_)
      refine x_tov  (show xW cI cO a s (o_X4_correct_141 s f N kn E d b mm fd) R = xW cI cO a s (o_X4_correct_116 s f N kn E d b mm fd) R from by simp only [o_X4_correct_116]) ?_
      exact j_X4_correct_141 l D cI cO a R s f N kn ea iq E d b mm fd hN h4 h48 hd hd8 hb hb1 hb10 hm hm4 hkn hq hE1 S hr hlk (N + 1) 0 _ _ _ (by omega) (by omega) (w.to (show xW cI cO a s (itk (fun _ φ => o_X4_smoothOnce s φ N) mm (va_up f 1 (pfx (kn - d) (corF s f kn E d b fd) (f 1)))) R = xW cI cO a s (va_up (itk (fun _ φ => o_X4_smoothOnce s φ N) mm (va_up f 1 (pfx (kn - d) (corF s f kn E d b fd) (f 1)))) 1 (pfx 0 (limF s (itk (fun _ φ => o_X4_smoothOnce s φ N) mm (va_up f 1 (pfx (kn - d) (corF s f kn E d b fd) (f 1))))) ((itk (fun _ φ => o_X4_smoothOnce s φ N) mm (va_up f 1 (pfx (kn - d) (corF s f kn E d b fd) (f 1)))) 1))) R from x_f va_first.symm)) (lv_sub hl [1, 0] rfl)
    · have hlt : i < mm := Nat.lt_of_not_le (fun z => c_2 (nI_le z (by omega)))
      refine lv_aload_n S.1 S.2.1 dX4_correct_128 rfl (lv_at hl 0 rfl) ?_
      refine x_Vv (As := []) (rest := []) S w (goodV lk_RX4_291 li_X4_smoothOnce ls_X4_smoothOnce ln_RX4 lc_X4_smoothOnce) hV_X4_smoothOnce (k_X4_smoothOnce l D cI cO a R s (itk (fun _ φ => o_X4_smoothOnce s φ N) i (va_up f 1 (pfx (kn - d) (corF s f kn E d b fd) (f 1)))) N hN h4 h48) rfl 0 4 rfl rfl xc_0 ⟨(Nat.le_of_ble_eq_true rfl), (Nat.le_of_ble_eq_true rfl)⟩ ⟨rfl, rfl⟩ hl.1 rfl (Nat.le_of_ble_eq_true rfl) ⟨Nat.zero_le _, Nat.zero_le _⟩ dX4_correct_129 (fun H locs (w : Wd D (kT cI cO) (va_A _ _) _ _ (xW cI cO a s (o_X4_smoothOnce s (itk (fun _ φ => o_X4_smoothOnce s φ N) i (va_up f 1 (pfx (kn - d) (corF s f kn E d b fd) (f 1)))) N) R) H locs) => ?_)
      refine lv_iinc (v := nI (i + 1)) (lv' := [(4, .int (nI (i + 1))), (0, .ref (a 0))]) S.1 S.2.1 dX4_correct_132 hl (k := 1) rfl (x_inc _) (by decide) rfl (fun ls hl => ?_)
      refine lv_goto (tgt := 116) S.1 S.2.1 dX4_correct_135 (by decide) ?_
      exact ih (i + 1) _ _ _ (by omega) (by omega) (w.to (show xW cI cO a s (o_X4_smoothOnce s (itk (fun _ φ => o_X4_smoothOnce s φ N) i (va_up f 1 (pfx (kn - d) (corF s f kn E d b fd) (f 1)))) N) R = xW cI cO a s (itk (fun _ φ => o_X4_smoothOnce s φ N) (i + 1) (va_up f 1 (pfx (kn - d) (corF s f kn E d b fd) (f 1)))) R from rfl)) (lv_sub hl [1, 0] rfl)
def o_X4_correct_3 (s : Nat → Int32) (f : Nat → Nat → Int32) (N : Nat) (kn : Nat) (E : Nat) (d : Nat) (b : Nat) (mm : Nat) (fd : Int32) : (Nat → Nat → Int32) := o_X4_correct_116 s f N kn E d b mm fd
set_option maxHeartbeats 4000000 in
set_option maxRecDepth 100000 in
theorem j_X4_correct_3 {p : Program} {e : Env} {st : State} {m : MethodId} {args : Array Value} {below : List Frame} {meth : Method} {c : Code} {ws0 : va_W} {sz : Nat} (l : Launch) (D : va_G) (cI cO : ClassId) (a : Nat → Nat) (R : va_W) (s : Nat → Int32) (f : Nat → Nat → Int32) (N : Nat) (kn : Nat) (ea : Nat) (iq : Nat) (E : Nat) (d : Nat) (b : Nat) (mm : Nat) (fd : Int32) (hN : s 0 = nI N) (h4 : 4 ≤ N) (h48 : N ≤ 48) (hd : s 2 = nI d) (hd8 : d ≤ 8) (hb : s 6 = nI b) (hb1 : 1 ≤ b) (hb10 : b ≤ 10) (hm : s 4 = nI mm) (hm4 : mm ≤ 4) (hkn : kn ≤ N) (hq : ∀ (σ : Nat → Int32) (φ : Nat → Nat → Int32), (xW cI cO a σ φ R)[iq]? = some (ea, .inl (cI, 48, .inl (φ E)))) (hE1 : E ≠ 1) (S : CallFix p m c cX4_correct 9 st args wsL_law RX4) (hr : meth.sig.returnType = none) (hlk : meth.locks = false) : ∀ (n : Nat) (i : Nat) (H : Heap) (locs : List Loc) (ls : Array Slot), kn - d + 1 ≤ i + n → i ≤ kn - d → Wd D (kT cI cO) (va_A ws0 sz) st.heap st (xW cI cO a s (va_up f 1 (pfx i (corF s f kn E d b fd) (f 1))) R) H locs → lv_has ls 9 [(0, .ref (a 0)), (1, .ref ea), (2, .int (nI kn)), (3, .int fd), (4, .int (nI i))] → W p l e { frames := 2, cells := 0, slots := 0, locals := 70 } st m args below meth c H locs 0 0 (MQ below (mQv D (kT cI cO) ws0 sz (xW cI cO a s (o_X4_correct_3 s f N kn E d b mm fd) R)) args st 0 0 (va_A ws0 sz)) (F0 m 3 ls []) := by
  intro n
  induction n with
  | zero => intro i H locs ls hfu hi w hl; exact absurd hfu (by omega)
  | succ n ih =>
    intro i H locs ls hfu hi w hl
    refine lv_iload S.1 S.2.1 dX4_correct_3 (lv_at hl 4 rfl) ?_
    refine lv_aload_n S.1 S.2.1 dX4_correct_5 rfl (lv_at hl 0 rfl) ?_
    refine xr_1 S w lk_RX4_10 dX4_correct_6 ?_
    refine xg_2 S w lk_RX4_79 dX4_correct_9 ?_
    refine x_eqi (x := s 2) (y := nI d) (hd) ?_
    refine lv_iadd S.1 S.2.1 dX4_correct_12 ?_
    refine x_eqi (x := (nI i) + (nI d)) (y := nI (i + d)) (nI_add i d) ?_
    refine lv_iload_n S.1 S.2.1 dX4_correct_13 rfl (lv_at hl 2 rfl) ?_
    refine lv_icmp_ge (tgt := 113) S.1 S.2.1 dX4_correct_14 (by decide) (fun (c_3 : (nI kn) ≤ (nI (i + d))) => ?_) (fun (c_3 : ¬ ((nI kn) ≤ (nI (i + d)))) => ?_)
    · have he : i = kn - d := by
        have := (nI_leI (a := kn) (b := i + d) (by omega) (by omega)).mp c_3
        omega
      subst i
      refine lv_iconst (v := 0) S.1 S.2.1 dX4_correct_113 (by decide) ?_
      refine lv_istore (lv' := [(4, .int 0), (0, .ref (a 0)), (1, .ref ea), (2, .int (nI kn)), (3, .int fd)]) S.1 S.2.1 dX4_correct_114 hl (by decide) rfl (fun ls hl => ?_)
      refine x_tov  (show xW cI cO a s (o_X4_correct_116 s f N kn E d b mm fd) R = xW cI cO a s (o_X4_correct_3 s f N kn E d b mm fd) R from by simp only [o_X4_correct_3]) ?_
      exact j_X4_correct_116 l D cI cO a R s f N kn ea iq E d b mm fd hN h4 h48 hd hd8 hb hb1 hb10 hm hm4 hkn hq hE1 S hr hlk (mm + 1) 0 _ _ _ (by omega) (by omega) (w.to (show xW cI cO a s (va_up f 1 (pfx (kn - d) (corF s f kn E d b fd) (f 1))) R = xW cI cO a s (itk (fun _ φ => o_X4_smoothOnce s φ N) 0 (va_up f 1 (pfx (kn - d) (corF s f kn E d b fd) (f 1)))) R from rfl)) (lv_sub hl [1, 0] rfl)
    · have hlt : i + d < kn := Nat.lt_of_not_le (fun z => c_3 (nI_le z (by omega)))
      refine lv_iload S.1 S.2.1 dX4_correct_17 (lv_at hl 4 rfl) ?_
      refine lv_aload_n S.1 S.2.1 dX4_correct_19 rfl (lv_at hl 0 rfl) ?_
      refine xr_1 S w lk_RX4_10 dX4_correct_20 ?_
      refine xg_2 S w lk_RX4_79 dX4_correct_23 ?_
      refine x_eqi (x := s 2) (y := nI d) (hd) ?_
      refine lv_iadd S.1 S.2.1 dX4_correct_26 ?_
      refine x_eqi (x := (nI i) + (nI d)) (y := nI (i + d)) (nI_add i d) ?_
      refine lv_istore (lv' := [(5, .int (nI (i + d))), (0, .ref (a 0)), (1, .ref ea), (2, .int (nI kn)), (3, .int fd), (4, .int (nI i))]) S.1 S.2.1 dX4_correct_27 hl (by decide) rfl (fun ls hl => ?_)
      refine lv_iload_n S.1 S.2.1 dX4_correct_29 rfl (lv_at hl 4 rfl) ?_
      refine lv_if_eq (tgt := 50) S.1 S.2.1 dX4_correct_30 (by decide) (fun (c_4 : fd = 0) => ?_) (fun (c_4 : ¬ (fd = 0)) => ?_)
      · refine lv_aload_n S.1 S.2.1 dX4_correct_50 rfl (lv_at hl 1 rfl) ?_
        refine xr_1 S w lk_RX4_10 dX4_correct_51 ?_
        refine xg_6 S w lk_RX4_96 dX4_correct_54 ?_
        refine x_eqi (x := s 6) (y := cwt fd b (kn - (i + d))) (by rw [cwt, if_pos c_4]; exact hb) ?_
        refine lv_istore (lv' := [(6, .int (cwt fd b (kn - (i + d)))), (5, .int (nI (i + d))), (0, .ref (a 0)), (1, .ref ea), (2, .int (nI kn)), (3, .int fd), (4, .int (nI i))]) S.1 S.2.1 dX4_correct_57 hl (by decide) rfl (fun ls hl => ?_)
        refine lv_aload_n S.1 S.2.1 dX4_correct_59 rfl (lv_at hl 2 rfl) ?_
        refine xr_1 S w lk_RX4_10 dX4_correct_60 ?_
        refine xg_1 S w lk_RX4_76 dX4_correct_63 ?_
        refine lv_i2l S.1 S.2.1 dX4_correct_66 rfl ?_
        refine lv_aload_n S.1 S.2.1 dX4_correct_67 rfl (lv_at hl 3 rfl) ?_
        refine lv_iload S.1 S.2.1 dX4_correct_68 (lv_at hl 1 rfl) ?_
        refine x_iald S w iq 0 (g := (va_up f 1 (pfx i (corF s f kn E d b fd) (f 1))) E) (v := f E (i + d)) (i + d) (by omega) (rfl) (Nat.le_of_ble_eq_true rfl) (hq _ _) rfl (congrFun (va_un hE1) _) dX4_correct_70 ?_
        refine lv_i2l S.1 S.2.1 dX4_correct_71 rfl ?_
        refine lv_lmul S.1 S.2.1 dX4_correct_72 ?_
        refine lv_iload S.1 S.2.1 dX4_correct_73 (lv_at hl 0 rfl) ?_
        refine lv_i2l S.1 S.2.1 dX4_correct_75 rfl ?_
        refine lv_lmul S.1 S.2.1 dX4_correct_76 ?_
        refine lv_lstore (lv' := [(7, .long (((Int32.toInt64 (s 1)) * (Int32.toInt64 (f E (i + d)))) * (Int32.toInt64 (cwt fd b (kn - (i + d)))))), (6, .int (cwt fd b (kn - (i + d)))), (5, .int (nI (i + d))), (0, .ref (a 0)), (1, .ref ea), (2, .int (nI kn)), (3, .int fd), (4, .int (nI i))]) S.1 S.2.1 dX4_correct_77 hl (by decide) rfl (fun ls hl => ?_)
        refine lv_aload_n S.1 S.2.1 dX4_correct_79 rfl (lv_at hl 3 rfl) ?_
        refine xr_6 S w lk_RX4_41 dX4_correct_80 ?_
        refine lv_iload S.1 S.2.1 dX4_correct_83 (lv_at hl 7 rfl) ?_
        refine lv_dup2_11 S.1 S.2.1 dX4_correct_85 rfl rfl ?_
        refine x_iald S w 6 0 (g := pfx i (corF s f kn E d b fd) (f 1)) (v := f 1 i) i (by omega) (rfl) (Nat.le_of_ble_eq_true rfl) (xc_6) rfl (pfx_ge _ _ (Nat.le_refl i)) dX4_correct_86 ?_
        refine lv_lload S.1 S.2.1 dX4_correct_87 (lv_at hl 0 rfl) ?_
        refine x_ldc2 S lk_RX4_286 dX4_correct_89 ?_
        refine lv_aload_n S.1 S.2.1 dX4_correct_92 rfl (lv_at hl 3 rfl) ?_
        refine xr_1 S w lk_RX4_10 dX4_correct_93 ?_
        refine xg_6 S w lk_RX4_96 dX4_correct_96 ?_
        refine x_eqi (x := s 6) (y := nI b) (hb) ?_
        refine lv_i2l S.1 S.2.1 dX4_correct_99 rfl ?_
        refine lv_lmul S.1 S.2.1 dX4_correct_100 ?_
        refine x_Sl (As := [.long (((Int32.toInt64 (s 1)) * (Int32.toInt64 (f E (i + d)))) * (Int32.toInt64 (cwt fd b (kn - (i + d))))), .long (1000 * (Int32.toInt64 (nI b)))]) (rest := [.int (f 1 i), .int (nI i), .ref (a 6)]) S w (goodS lk_RX4_288 lt_J9_floorDiv_f86c9 ln_RJ9 lc_J9_floorDiv_f86c9) hd_J9_floorDiv_f86c9 (k_J9_floorDiv_f86c9 l _ _ (xW cI cO a s (va_up f 1 (pfx i (corF s f kn E d b fd) (f 1))) R) (((Int32.toInt64 (s 1)) * (Int32.toInt64 (f E (i + d)))) * (Int32.toInt64 (cwt fd b (kn - (i + d))))) (1000 * (Int32.toInt64 (nI b))) (dv_ne hb1 hb10)) rfl ⟨(Nat.le_of_ble_eq_true rfl), (Nat.le_of_ble_eq_true rfl)⟩ ⟨rfl, rfl⟩ hl.1 rfl (Nat.le_of_ble_eq_true rfl) ⟨Nat.zero_le _, Nat.zero_le _⟩ dX4_correct_101 (fun H locs (w : Wd D (kT cI cO) (va_A _ _) _ _ (xW cI cO a s (va_up f 1 (pfx i (corF s f kn E d b fd) (f 1))) R) H locs) => ?_)
        refine x_eql (x := o_J9_floorDiv_f86c9 (((Int32.toInt64 (s 1)) * (Int32.toInt64 (f E (i + d)))) * (Int32.toInt64 (cwt fd b (kn - (i + d))))) (1000 * (Int32.toInt64 (nI b)))) (y := fdv (((Int32.toInt64 (s 1)) * (Int32.toInt64 (f E (i + d)))) * (Int32.toInt64 (cwt fd b (kn - (i + d))))) (1000 * (Int32.toInt64 (nI b)))) (fl_eq (dv_pos hb1 hb10)) ?_
        refine lv_l2i S.1 S.2.1 dX4_correct_104 rfl ?_
        refine lv_iadd S.1 S.2.1 dX4_correct_105 ?_
        refine x_iast S w 6 0 (g := pfx i (corF s f kn E d b fd) (f 1)) i (by omega) (rfl) (Nat.le_of_ble_eq_true rfl) (xc_6) rfl (xs_1) dX4_correct_106 (fun H locs (w : Wd D (kT cI cO) (va_A _ _) _ _ (xW cI cO a s (va_up (va_up f 1 (pfx i (corF s f kn E d b fd) (f 1))) 1 (upd (pfx i (corF s f kn E d b fd) (f 1)) i ((f 1 i) + (Int64.toInt32 (fdv (((Int32.toInt64 (s 1)) * (Int32.toInt64 (f E (i + d)))) * (Int32.toInt64 (cwt fd b (kn - (i + d))))) (1000 * (Int32.toInt64 (nI b)))))))) R) H locs) => ?_)
        have w := w.to (show xW cI cO a s (va_up (va_up f 1 (pfx i (corF s f kn E d b fd) (f 1))) 1 (upd (pfx i (corF s f kn E d b fd) (f 1)) i ((f 1 i) + (Int64.toInt32 (fdv (((Int32.toInt64 (s 1)) * (Int32.toInt64 (f E (i + d)))) * (Int32.toInt64 (cwt fd b (kn - (i + d))))) (1000 * (Int32.toInt64 (nI b)))))))) R = xW cI cO a s (va_up f 1 (pfx (i + 1) (corF s f kn E d b fd) (f 1))) R from x_f (va_step' rfl))
        refine lv_iinc (v := nI (i + 1)) (lv' := [(4, .int (nI (i + 1))), (7, .long (((Int32.toInt64 (s 1)) * (Int32.toInt64 (f E (i + d)))) * (Int32.toInt64 (cwt fd b (kn - (i + d)))))), (6, .int (cwt fd b (kn - (i + d)))), (5, .int (nI (i + d))), (0, .ref (a 0)), (1, .ref ea), (2, .int (nI kn)), (3, .int fd)]) S.1 S.2.1 dX4_correct_107 hl (k := 7) rfl (x_inc _) (by decide) rfl (fun ls hl => ?_)
        refine lv_goto (tgt := 3) S.1 S.2.1 dX4_correct_110 (by decide) ?_
        exact ih (i + 1) _ _ _ (by omega) (by omega) w (lv_sub hl [4, 5, 6, 7, 0] rfl)
      · refine lv_aload_n S.1 S.2.1 dX4_correct_33 rfl (lv_at hl 1 rfl) ?_
        refine xr_1 S w lk_RX4_10 dX4_correct_34 ?_
        refine xg_6 S w lk_RX4_96 dX4_correct_37 ?_
        refine x_eqi (x := s 6) (y := nI b) (hb) ?_
        refine lv_iload_n S.1 S.2.1 dX4_correct_40 rfl (lv_at hl 3 rfl) ?_
        refine lv_iload S.1 S.2.1 dX4_correct_41 (lv_at hl 0 rfl) ?_
        refine lv_isub S.1 S.2.1 dX4_correct_43 ?_
        refine x_eqi (x := (nI kn) - (nI (i + d))) (y := nI (kn - (i + d))) (pk_sub (by omega)) ?_
        refine x_mmin S lk_RX4_271 hl.1 (Nat.le_of_ble_eq_true rfl) (Nat.le_of_ble_eq_true rfl) (Nat.zero_le _) (Nat.zero_le _) (x := nI b) (y := nI (kn - (i + d))) (v := cwt fd b (kn - (i + d))) (by rw [cwt, if_neg c_4]; exact mn_eq (by omega) (by omega)) dX4_correct_44 ?_
        refine lv_goto (tgt := 57) S.1 S.2.1 dX4_correct_47 (by decide) ?_
        refine lv_istore (lv' := [(6, .int (cwt fd b (kn - (i + d)))), (5, .int (nI (i + d))), (0, .ref (a 0)), (1, .ref ea), (2, .int (nI kn)), (3, .int fd), (4, .int (nI i))]) S.1 S.2.1 dX4_correct_57 hl (by decide) rfl (fun ls hl => ?_)
        refine lv_aload_n S.1 S.2.1 dX4_correct_59 rfl (lv_at hl 2 rfl) ?_
        refine xr_1 S w lk_RX4_10 dX4_correct_60 ?_
        refine xg_1 S w lk_RX4_76 dX4_correct_63 ?_
        refine lv_i2l S.1 S.2.1 dX4_correct_66 rfl ?_
        refine lv_aload_n S.1 S.2.1 dX4_correct_67 rfl (lv_at hl 3 rfl) ?_
        refine lv_iload S.1 S.2.1 dX4_correct_68 (lv_at hl 1 rfl) ?_
        refine x_iald S w iq 0 (g := (va_up f 1 (pfx i (corF s f kn E d b fd) (f 1))) E) (v := f E (i + d)) (i + d) (by omega) (rfl) (Nat.le_of_ble_eq_true rfl) (hq _ _) rfl (congrFun (va_un hE1) _) dX4_correct_70 ?_
        refine lv_i2l S.1 S.2.1 dX4_correct_71 rfl ?_
        refine lv_lmul S.1 S.2.1 dX4_correct_72 ?_
        refine lv_iload S.1 S.2.1 dX4_correct_73 (lv_at hl 0 rfl) ?_
        refine lv_i2l S.1 S.2.1 dX4_correct_75 rfl ?_
        refine lv_lmul S.1 S.2.1 dX4_correct_76 ?_
        refine lv_lstore (lv' := [(7, .long (((Int32.toInt64 (s 1)) * (Int32.toInt64 (f E (i + d)))) * (Int32.toInt64 (cwt fd b (kn - (i + d)))))), (6, .int (cwt fd b (kn - (i + d)))), (5, .int (nI (i + d))), (0, .ref (a 0)), (1, .ref ea), (2, .int (nI kn)), (3, .int fd), (4, .int (nI i))]) S.1 S.2.1 dX4_correct_77 hl (by decide) rfl (fun ls hl => ?_)
        refine lv_aload_n S.1 S.2.1 dX4_correct_79 rfl (lv_at hl 3 rfl) ?_
        refine xr_6 S w lk_RX4_41 dX4_correct_80 ?_
        refine lv_iload S.1 S.2.1 dX4_correct_83 (lv_at hl 7 rfl) ?_
        refine lv_dup2_11 S.1 S.2.1 dX4_correct_85 rfl rfl ?_
        refine x_iald S w 6 0 (g := pfx i (corF s f kn E d b fd) (f 1)) (v := f 1 i) i (by omega) (rfl) (Nat.le_of_ble_eq_true rfl) (xc_6) rfl (pfx_ge _ _ (Nat.le_refl i)) dX4_correct_86 ?_
        refine lv_lload S.1 S.2.1 dX4_correct_87 (lv_at hl 0 rfl) ?_
        refine x_ldc2 S lk_RX4_286 dX4_correct_89 ?_
        refine lv_aload_n S.1 S.2.1 dX4_correct_92 rfl (lv_at hl 3 rfl) ?_
        refine xr_1 S w lk_RX4_10 dX4_correct_93 ?_
        refine xg_6 S w lk_RX4_96 dX4_correct_96 ?_
        refine x_eqi (x := s 6) (y := nI b) (hb) ?_
        refine lv_i2l S.1 S.2.1 dX4_correct_99 rfl ?_
        refine lv_lmul S.1 S.2.1 dX4_correct_100 ?_
        refine x_Sl (As := [.long (((Int32.toInt64 (s 1)) * (Int32.toInt64 (f E (i + d)))) * (Int32.toInt64 (cwt fd b (kn - (i + d))))), .long (1000 * (Int32.toInt64 (nI b)))]) (rest := [.int (f 1 i), .int (nI i), .ref (a 6)]) S w (goodS lk_RX4_288 lt_J9_floorDiv_f86c9 ln_RJ9 lc_J9_floorDiv_f86c9) hd_J9_floorDiv_f86c9 (k_J9_floorDiv_f86c9 l _ _ (xW cI cO a s (va_up f 1 (pfx i (corF s f kn E d b fd) (f 1))) R) (((Int32.toInt64 (s 1)) * (Int32.toInt64 (f E (i + d)))) * (Int32.toInt64 (cwt fd b (kn - (i + d))))) (1000 * (Int32.toInt64 (nI b))) (dv_ne hb1 hb10)) rfl ⟨(Nat.le_of_ble_eq_true rfl), (Nat.le_of_ble_eq_true rfl)⟩ ⟨rfl, rfl⟩ hl.1 rfl (Nat.le_of_ble_eq_true rfl) ⟨Nat.zero_le _, Nat.zero_le _⟩ dX4_correct_101 (fun H locs (w : Wd D (kT cI cO) (va_A _ _) _ _ (xW cI cO a s (va_up f 1 (pfx i (corF s f kn E d b fd) (f 1))) R) H locs) => ?_)
        refine x_eql (x := o_J9_floorDiv_f86c9 (((Int32.toInt64 (s 1)) * (Int32.toInt64 (f E (i + d)))) * (Int32.toInt64 (cwt fd b (kn - (i + d))))) (1000 * (Int32.toInt64 (nI b)))) (y := fdv (((Int32.toInt64 (s 1)) * (Int32.toInt64 (f E (i + d)))) * (Int32.toInt64 (cwt fd b (kn - (i + d))))) (1000 * (Int32.toInt64 (nI b)))) (fl_eq (dv_pos hb1 hb10)) ?_
        refine lv_l2i S.1 S.2.1 dX4_correct_104 rfl ?_
        refine lv_iadd S.1 S.2.1 dX4_correct_105 ?_
        refine x_iast S w 6 0 (g := pfx i (corF s f kn E d b fd) (f 1)) i (by omega) (rfl) (Nat.le_of_ble_eq_true rfl) (xc_6) rfl (xs_1) dX4_correct_106 (fun H locs (w : Wd D (kT cI cO) (va_A _ _) _ _ (xW cI cO a s (va_up (va_up f 1 (pfx i (corF s f kn E d b fd) (f 1))) 1 (upd (pfx i (corF s f kn E d b fd) (f 1)) i ((f 1 i) + (Int64.toInt32 (fdv (((Int32.toInt64 (s 1)) * (Int32.toInt64 (f E (i + d)))) * (Int32.toInt64 (cwt fd b (kn - (i + d))))) (1000 * (Int32.toInt64 (nI b)))))))) R) H locs) => ?_)
        have w := w.to (show xW cI cO a s (va_up (va_up f 1 (pfx i (corF s f kn E d b fd) (f 1))) 1 (upd (pfx i (corF s f kn E d b fd) (f 1)) i ((f 1 i) + (Int64.toInt32 (fdv (((Int32.toInt64 (s 1)) * (Int32.toInt64 (f E (i + d)))) * (Int32.toInt64 (cwt fd b (kn - (i + d))))) (1000 * (Int32.toInt64 (nI b)))))))) R = xW cI cO a s (va_up f 1 (pfx (i + 1) (corF s f kn E d b fd) (f 1))) R from x_f (va_step' rfl))
        refine lv_iinc (v := nI (i + 1)) (lv' := [(4, .int (nI (i + 1))), (7, .long (((Int32.toInt64 (s 1)) * (Int32.toInt64 (f E (i + d)))) * (Int32.toInt64 (cwt fd b (kn - (i + d)))))), (6, .int (cwt fd b (kn - (i + d)))), (5, .int (nI (i + d))), (0, .ref (a 0)), (1, .ref ea), (2, .int (nI kn)), (3, .int fd)]) S.1 S.2.1 dX4_correct_107 hl (k := 7) rfl (x_inc _) (by decide) rfl (fun ls hl => ?_)
        refine lv_goto (tgt := 3) S.1 S.2.1 dX4_correct_110 (by decide) ?_
        exact ih (i + 1) _ _ _ (by omega) (by omega) w (lv_sub hl [4, 5, 6, 7, 0] rfl)
def o_X4_correct (s : Nat → Int32) (f : Nat → Nat → Int32) (N : Nat) (kn : Nat) (E : Nat) (d : Nat) (b : Nat) (mm : Nat) (fd : Int32) : (Nat → Nat → Int32) := o_X4_correct_3 s f N kn E d b mm fd
set_option maxHeartbeats 4000000 in
set_option maxRecDepth 100000 in
theorem k_X4_correct (l : Launch) (D : va_G) (cI cO : ClassId) (a : Nat → Nat) (R : va_W) (s : Nat → Int32) (f : Nat → Nat → Int32) (N : Nat) (kn : Nat) (ea : Nat) (iq : Nat) (E : Nat) (d : Nat) (b : Nat) (mm : Nat) (fd : Int32) (hN : s 0 = nI N) (h4 : 4 ≤ N) (h48 : N ≤ 48) (hd : s 2 = nI d) (hd8 : d ≤ 8) (hb : s 6 = nI b) (hb1 : 1 ≤ b) (hb10 : b ≤ 10) (hm : s 4 = nI mm) (hm4 : mm ≤ 4) (hkn : kn ≤ N) (hq : ∀ (σ : Nat → Int32) (φ : Nat → Nat → Int32), (xW cI cO a σ φ R)[iq]? = some (ea, .inl (cI, 48, .inl (φ E)))) (hE1 : E ≠ 1) : Mv l yX4_correct cX4_correct 9 none { frames := 2, cells := 0, slots := 0, locals := 70 } D (kT cI cO) (xW cI cO a s f R) [.ref (a 0), .ref ea, .int (nI kn), .int fd] (xW cI cO a s (o_X4_correct s f N kn E d b mm fd) R) := by
  intro sz
  refine ent (by decide +kernel) (Nat.le_of_ble_eq_true rfl) ?_
  intro p e st m below meth c ls S hr hlk hnm w hsz hl
  have hl : lv_has ls 9 [(0, .ref (a 0)), (1, .ref ea), (2, .int (nI kn)), (3, .int fd)] := hl
  refine lv_iconst (v := 0) S.1 S.2.1 dX4_correct_0 (by decide) ?_
  refine lv_istore (lv' := [(4, .int 0), (0, .ref (a 0)), (1, .ref ea), (2, .int (nI kn)), (3, .int fd)]) S.1 S.2.1 dX4_correct_1 hl (by decide) rfl (fun ls hl => ?_)
  refine x_tov  (show xW cI cO a s (o_X4_correct_3 s f N kn E d b mm fd) R = xW cI cO a s (o_X4_correct s f N kn E d b mm fd) R from by simp only [o_X4_correct]) ?_
  exact j_X4_correct_3 l D cI cO a R s f N kn ea iq E d b mm fd hN h4 h48 hd hd8 hb hb1 hb10 hm hm4 hkn hq hE1 S hr hlk (kn - d + 1) 0 _ _ _ (by omega) (by omega) (w.to (show xW cI cO a s f R = xW cI cO a s (va_up f 1 (pfx 0 (corF s f kn E d b fd) (f 1))) R from x_f va_first.symm)) (lv_sub hl [1, 2, 3, 4, 0] rfl)
def o_X4_learnFromPart_2 (s : Nat → Int32) (f : Nat → Nat → Int32) (N : Nat) (cc : Nat) (d : Nat) (b : Nat) (mm : Nat) : (Nat → Nat → Int32) := o_X4_correct s (va_up f 5 (pfx cc (peF f) (f 5))) N cc 5 d b mm 1
set_option maxHeartbeats 4000000 in
set_option maxRecDepth 100000 in
theorem j_X4_learnFromPart_2 {p : Program} {e : Env} {st : State} {m : MethodId} {args : Array Value} {below : List Frame} {meth : Method} {c : Code} {ws0 : va_W} {sz : Nat} (l : Launch) (D : va_G) (cI cO : ClassId) (a : Nat → Nat) (R : va_W) (s : Nat → Int32) (f : Nat → Nat → Int32) (N : Nat) (cc : Nat) (d : Nat) (b : Nat) (mm : Nat) (hN : s 0 = nI N) (h4 : 4 ≤ N) (h48 : N ≤ 48) (hd : s 2 = nI d) (hd8 : d ≤ 8) (hb : s 6 = nI b) (hb1 : 1 ≤ b) (hb10 : b ≤ 10) (hm : s 4 = nI mm) (hm4 : mm ≤ 4) (hc : s 12 = nI cc) (hcN : cc ≤ N) (S : CallFix p m c cX4_learnFromPart 2 st args wsL_law RX4) (hr : meth.sig.returnType = none) (hlk : meth.locks = false) : ∀ (n : Nat) (i : Nat) (H : Heap) (locs : List Loc) (ls : Array Slot), cc + 1 ≤ i + n → i ≤ cc → Wd D (kT cI cO) (va_A ws0 sz) st.heap st (xW cI cO a s (va_up f 5 (pfx i (peF f) (f 5))) R) H locs → lv_has ls 2 [(0, .ref (a 0)), (1, .int (nI i))] → W p l e { frames := 3, cells := 0, slots := 0, locals := 98 } st m args below meth c H locs 0 0 (MQ below (mQv D (kT cI cO) ws0 sz (xW cI cO a s (o_X4_learnFromPart_2 s f N cc d b mm) R)) args st 0 0 (va_A ws0 sz)) (F0 m 2 ls []) := by
  intro n
  induction n with
  | zero => intro i H locs ls hfu hi w hl; exact absurd hfu (by omega)
  | succ n ih =>
    intro i H locs ls hfu hi w hl
    refine lv_iload_n S.1 S.2.1 dX4_learnFromPart_2 rfl (lv_at hl 1 rfl) ?_
    refine lv_aload_n S.1 S.2.1 dX4_learnFromPart_3 rfl (lv_at hl 0 rfl) ?_
    refine xg_12 S w lk_RX4_126 dX4_learnFromPart_4 ?_
    refine x_eqi (x := s 12) (y := nI cc) (hc) ?_
    refine lv_icmp_ge (tgt := 35) S.1 S.2.1 dX4_learnFromPart_7 (by decide) (fun (c_1 : (nI cc) ≤ (nI i)) => ?_) (fun (c_1 : ¬ ((nI cc) ≤ (nI i))) => ?_)
    · have he : i = cc := by
        have := (nI_leI (a := cc) (b := i) (by omega) (by omega)).mp c_1
        omega
      subst i
      refine lv_aload_n S.1 S.2.1 dX4_learnFromPart_35 rfl (lv_at hl 0 rfl) ?_
      refine lv_aload_n S.1 S.2.1 dX4_learnFromPart_36 rfl (lv_at hl 0 rfl) ?_
      refine xr_10 S w lk_RX4_53 dX4_learnFromPart_37 ?_
      refine lv_aload_n S.1 S.2.1 dX4_learnFromPart_40 rfl (lv_at hl 0 rfl) ?_
      refine xg_12 S w lk_RX4_126 dX4_learnFromPart_41 ?_
      refine x_eqi (x := s 12) (y := nI cc) (hc) ?_
      refine lv_iconst (v := 1) S.1 S.2.1 dX4_learnFromPart_44 (by decide) ?_
      refine x_Vv (As := [.ref (a 10), .int (nI cc), .int 1]) (rest := []) S w (goodV lk_RX4_261 li_X4_correct ls_X4_correct ln_RX4 lc_X4_correct) hV_X4_correct (k_X4_correct l D cI cO a R s (va_up f 5 (pfx cc (peF f) (f 5))) N cc (a 10) 10 5 d b mm 1 hN h4 h48 hd hd8 hb hb1 hb10 hm hm4 hcN (fun _ _ => rfl) (by decide)) rfl 0 4 rfl rfl xc_0 ⟨(Nat.le_of_ble_eq_true rfl), (Nat.le_of_ble_eq_true rfl)⟩ ⟨rfl, rfl⟩ hl.1 rfl (Nat.le_of_ble_eq_true rfl) ⟨Nat.zero_le _, Nat.zero_le _⟩ dX4_learnFromPart_45 (fun H locs (w : Wd D (kT cI cO) (va_A _ _) _ _ (xW cI cO a s (o_X4_correct s (va_up f 5 (pfx cc (peF f) (f 5))) N cc 5 d b mm 1) R) H locs) => ?_)
      exact x_retv S w hr hlk dX4_learnFromPart_48 (show xW cI cO a s (o_X4_correct s (va_up f 5 (pfx cc (peF f) (f 5))) N cc 5 d b mm 1) R = xW cI cO a s (o_X4_learnFromPart_2 s f N cc d b mm) R from by simp only [o_X4_learnFromPart_2])
    · have hlt : i < cc := Nat.lt_of_not_le (fun z => c_1 (nI_le z (by omega)))
      refine lv_aload_n S.1 S.2.1 dX4_learnFromPart_10 rfl (lv_at hl 0 rfl) ?_
      refine xr_10 S w lk_RX4_53 dX4_learnFromPart_11 ?_
      refine lv_iload_n S.1 S.2.1 dX4_learnFromPart_14 rfl (lv_at hl 1 rfl) ?_
      refine lv_aload_n S.1 S.2.1 dX4_learnFromPart_15 rfl (lv_at hl 0 rfl) ?_
      refine xr_5 S w lk_RX4_37 dX4_learnFromPart_16 ?_
      refine lv_iload_n S.1 S.2.1 dX4_learnFromPart_19 rfl (lv_at hl 1 rfl) ?_
      refine x_iald S w 5 0 (g := f 0) (v := (f 0) i) i (by omega) (rfl) (Nat.le_of_ble_eq_true rfl) (xc_5) rfl (rfl) dX4_learnFromPart_20 ?_
      refine lv_aload_n S.1 S.2.1 dX4_learnFromPart_21 rfl (lv_at hl 0 rfl) ?_
      refine xr_8 S w lk_RX4_47 dX4_learnFromPart_22 ?_
      refine lv_iload_n S.1 S.2.1 dX4_learnFromPart_25 rfl (lv_at hl 1 rfl) ?_
      refine x_iald S w 8 0 (g := f 3) (v := (f 3) i) i (by omega) (rfl) (Nat.le_of_ble_eq_true rfl) (xc_8) rfl (rfl) dX4_learnFromPart_26 ?_
      refine lv_isub S.1 S.2.1 dX4_learnFromPart_27 ?_
      refine x_iast S w 10 0 (g := pfx i (peF f) (f 5)) i (by omega) (rfl) (Nat.le_of_ble_eq_true rfl) (xc_10) rfl (xs_5) dX4_learnFromPart_28 (fun H locs (w : Wd D (kT cI cO) (va_A _ _) _ _ (xW cI cO a s (va_up (va_up f 5 (pfx i (peF f) (f 5))) 5 (upd (pfx i (peF f) (f 5)) i (((f 0) i) - ((f 3) i)))) R) H locs) => ?_)
      have w := w.to (show xW cI cO a s (va_up (va_up f 5 (pfx i (peF f) (f 5))) 5 (upd (pfx i (peF f) (f 5)) i (((f 0) i) - ((f 3) i)))) R = xW cI cO a s (va_up f 5 (pfx (i + 1) (peF f) (f 5))) R from x_f (va_step' rfl))
      refine lv_iinc (v := nI (i + 1)) (lv' := [(1, .int (nI (i + 1))), (0, .ref (a 0))]) S.1 S.2.1 dX4_learnFromPart_29 hl (k := 1) rfl (x_inc _) (by decide) rfl (fun ls hl => ?_)
      refine lv_goto (tgt := 2) S.1 S.2.1 dX4_learnFromPart_32 (by decide) ?_
      exact ih (i + 1) _ _ _ (by omega) (by omega) w (lv_sub hl [1, 0] rfl)
def o_X4_learnFromPart (s : Nat → Int32) (f : Nat → Nat → Int32) (N : Nat) (cc : Nat) (d : Nat) (b : Nat) (mm : Nat) : (Nat → Nat → Int32) := o_X4_learnFromPart_2 s f N cc d b mm
set_option maxHeartbeats 4000000 in
set_option maxRecDepth 100000 in
theorem k_X4_learnFromPart (l : Launch) (D : va_G) (cI cO : ClassId) (a : Nat → Nat) (R : va_W) (s : Nat → Int32) (f : Nat → Nat → Int32) (N : Nat) (cc : Nat) (d : Nat) (b : Nat) (mm : Nat) (hN : s 0 = nI N) (h4 : 4 ≤ N) (h48 : N ≤ 48) (hd : s 2 = nI d) (hd8 : d ≤ 8) (hb : s 6 = nI b) (hb1 : 1 ≤ b) (hb10 : b ≤ 10) (hm : s 4 = nI mm) (hm4 : mm ≤ 4) (hc : s 12 = nI cc) (hcN : cc ≤ N) : Mv l yX4_learnFromPart cX4_learnFromPart 2 none { frames := 3, cells := 0, slots := 0, locals := 98 } D (kT cI cO) (xW cI cO a s f R) [.ref (a 0)] (xW cI cO a s (o_X4_learnFromPart s f N cc d b mm) R) := by
  intro sz
  refine ent (by decide +kernel) (Nat.le_of_ble_eq_true rfl) ?_
  intro p e st m below meth c ls S hr hlk hnm w hsz hl
  have hl : lv_has ls 2 [(0, .ref (a 0))] := hl
  refine lv_iconst (v := 0) S.1 S.2.1 dX4_learnFromPart_0 (by decide) ?_
  refine lv_istore_n (lv' := [(1, .int 0), (0, .ref (a 0))]) S.1 S.2.1 dX4_learnFromPart_1 rfl hl (by decide) rfl (fun ls hl => ?_)
  refine x_tov  (show xW cI cO a s (o_X4_learnFromPart_2 s f N cc d b mm) R = xW cI cO a s (o_X4_learnFromPart s f N cc d b mm) R from by simp only [o_X4_learnFromPart]) ?_
  exact j_X4_learnFromPart_2 l D cI cO a R s f N cc d b mm hN h4 h48 hd hd8 hb hb1 hb10 hm hm4 hc hcN S hr hlk (cc + 1) 0 _ _ _ (by omega) (by omega) (w.to (show xW cI cO a s f R = xW cI cO a s (va_up f 5 (pfx 0 (peF f) (f 5))) R from x_f va_first.symm)) (lv_sub hl [1, 0] rfl)
