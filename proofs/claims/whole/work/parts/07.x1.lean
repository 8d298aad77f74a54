def wIn (v lo hi : Int32) : Int32 := if v < lo then 0 else if hi < v then 0 else 1
theorem wIn_b (v lo hi : Int32) : wIn v lo hi = 0 ∨ wIn v lo hi = 1 := by
  unfold wIn
  split
  · exact Or.inl rfl
  · split
    · exact Or.inl rfl
    · exact Or.inr rfl
theorem wIn_ne {v lo hi : Int32} (h : ¬ wIn v lo hi = 0) : lo ≤ v ∧ v ≤ hi := by
  unfold wIn at h
  by_cases h1 : v < lo
  · exact absurd (if_pos h1) h
  · rw [if_neg h1] at h
    by_cases h2 : hi < v
    · exact absurd (if_pos h2) h
    · exact ⟨Int32.not_lt.mp h1, Int32.not_lt.mp h2⟩
/-- an int of 0 to n, as a natural -/
theorem wIn_ix {v hi : Int32} {n : Nat} (hn : n < 2 ^ 31) (hh : hi = nI n) (h : ¬ wIn v 0 hi = 0) : Int32.toNatClampNeg v ≤ n ∧ v = nI (Int32.toNatClampNeg v) := by
  obtain ⟨h1, h2⟩ := wIn_ne h
  subst hh
  obtain ⟨j, hj, rfl⟩ := nI_of2 (nI_toInt hn) (Int32.not_lt.mpr h1) h2
  rw [nI_clamp (Nat.lt_of_le_of_lt hj hn)]
  exact ⟨hj, rfl⟩
theorem wIn_j {v x : Int32} {N : Nat} (hN : x = nI N) (h4 : 4 ≤ N) (h48 : N ≤ 48) (h : ¬ wIn v 0 (x - 1) = 0) : Int32.toNatClampNeg v < N ∧ v = nI (Int32.toNatClampNeg v) := by
  have e : x - 1 = nI (N - 1) := by rw [hN]; exact pk_sub (b := 1) (by omega)
  obtain ⟨h1, h2⟩ := wIn_ix (by omega) e h
  exact ⟨by omega, h2⟩
def onI (q1 : Int32) : Int32 := if q1 = 0 then 0 else 1
/-- the row of a complete trial: c complete ones, of age g -/
def slt (c g : Int32) : Nat := (Int32.toNatClampNeg c - 1 - Int32.toNatClampNeg g) % 5
theorem slt_lt (c g : Int32) : slt c g < 5 := Nat.mod_lt _ (by decide)
theorem slt_eq {c g : Int32} {K A : Nat} (hK : c = nI K) (hK2 : K < 1000000) (hA : g = nI A) (h : A < K) : nI ((K - 1 - A) % 5) = nI (slt c g) := by
  unfold slt
  rw [hK, hA, nI_clamp (by omega), nI_clamp (by omega)]
theorem xor_pos {X : Nat} (h : X < 2 ^ 31) : (0 : Int32) ≤ nI X ^^^ 5 := by
  rw [← Int32.not_lt, Int32.lt_iff_toBitVec_slt]
  have h1 : (nI X).toBitVec.msb = false := by
    rw [BitVec.msb_eq_false_iff_two_mul_lt, pk_tn (by omega)]; omega
  have h2 : ((nI X) ^^^ 5).toBitVec.msb = false := by
    rw [Int32.toBitVec_xor, BitVec.msb_xor, h1]; rfl
  rw [show (0 : Int32).toBitVec = 0#32 from rfl, BitVec.slt_zero_eq_msb, h2]
  decide
set_option maxHeartbeats 4000000 in
set_option maxRecDepth 100000 in
theorem k_X4_isWithin (l : Launch) (D : va_G) (tys : List (ClassId × FieldType)) (ws : va_W) (v : Int32) (lo : Int32) (hi : Int32) : Mi l yX4_isWithin cX4_isWithin 3 (some .boolean) { frames := 0, cells := 0, slots := 0, locals := 0 } D tys ws [.int v, .int lo, .int hi] ws (wIn v lo hi) := by
  intro sz
  refine ent (by decide +kernel) (Nat.le_of_ble_eq_true rfl) ?_
  intro p e st m below meth c ls S hr hlk hnm w hsz hl
  have hl : lv_has ls 3 [(0, .int v), (1, .int lo), (2, .int hi)] := hl
  refine lv_iload_n S.1 S.2.1 dX4_isWithin_0 rfl (lv_at hl 0 rfl) ?_
  refine lv_iload_n S.1 S.2.1 dX4_isWithin_1 rfl (lv_at hl 1 rfl) ?_
  refine lv_icmp_lt (tgt := 14) S.1 S.2.1 dX4_isWithin_2 (by decide) (fun (c_1 : v < lo) => ?_) (fun (c_1 : ¬ (v < lo)) => ?_)
  · refine lv_iconst (v := 0) S.1 S.2.1 dX4_isWithin_14 (by decide) ?_
    exact x_retz S w hr hlk dX4_isWithin_15 (Or.inl rfl) (show 0 = wIn v lo hi from by simp only [wIn, if_pos c_1]) (show ws = ws from rfl)
  · refine lv_iload_n S.1 S.2.1 dX4_isWithin_5 rfl (lv_at hl 0 rfl) ?_
    refine lv_iload_n S.1 S.2.1 dX4_isWithin_6 rfl (lv_at hl 2 rfl) ?_
    refine lv_icmp_gt (tgt := 14) S.1 S.2.1 dX4_isWithin_7 (by decide) (fun (c_2 : hi < v) => ?_) (fun (c_2 : ¬ (hi < v)) => ?_)
    · refine lv_iconst (v := 0) S.1 S.2.1 dX4_isWithin_14 (by decide) ?_
      exact x_retz S w hr hlk dX4_isWithin_15 (Or.inl rfl) (show 0 = wIn v lo hi from by simp only [wIn, if_neg c_1, if_pos c_2]) (show ws = ws from rfl)
    · refine lv_iconst (v := 1) S.1 S.2.1 dX4_isWithin_10 (by decide) ?_
      refine lv_goto (tgt := 15) S.1 S.2.1 dX4_isWithin_11 (by decide) ?_
      exact x_retz S w hr hlk dX4_isWithin_15 (Or.inr rfl) (show 1 = wIn v lo hi from by simp only [wIn, if_neg c_1, if_neg c_2]) (show ws = ws from rfl)
def o_X4_isSignal (v : Int32) : Int32 := wIn v (-1000000) 1000000
set_option maxHeartbeats 4000000 in
set_option maxRecDepth 100000 in
theorem k_X4_isSignal (l : Launch) (D : va_G) (tys : List (ClassId × FieldType)) (ws : va_W) (v : Int32) : Mi l yX4_isSignal cX4_isSignal 1 (some .boolean) { frames := 1, cells := 0, slots := 0, locals := 22 } D tys ws [.int v] ws (o_X4_isSignal v) := by
  intro sz
  refine ent (by decide +kernel) (Nat.le_of_ble_eq_true rfl) ?_
  intro p e st m below meth c ls S hr hlk hnm w hsz hl
  have hl : lv_has ls 1 [(0, .int v)] := hl
  refine lv_iload_n S.1 S.2.1 dX4_isSignal_0 rfl (lv_at hl 0 rfl) ?_
  refine x_ldc S lk_RX4_215 dX4_isSignal_1 ?_
  refine x_ldc S lk_RX4_92 dX4_isSignal_3 ?_
  refine x_Si (As := [.int v, .int (-1000000), .int 1000000]) (rest := []) S w (goodS lk_RX4_60 lt_X4_isWithin ln_RX4 lc_X4_isWithin) hd_X4_isWithin (k_X4_isWithin l _ _ ws v (-1000000) 1000000) rfl ⟨(Nat.le_of_ble_eq_true rfl), (Nat.le_of_ble_eq_true rfl)⟩ ⟨rfl, rfl⟩ hl.1 rfl (Nat.le_of_ble_eq_true rfl) ⟨Nat.zero_le _, Nat.zero_le _⟩ dX4_isSignal_5 (fun H locs (w : Wd D tys (va_A _ _) _ _ (ws) H locs) => ?_)
  exact x_retz S w hr hlk dX4_isSignal_8 (wIn_b _ _ _) (show wIn v (-1000000) 1000000 = o_X4_isSignal v from by simp only [o_X4_isSignal]) (show ws = ws from rfl)
def o_X4_isAge (v : Int32) : Int32 := wIn v 0 4
set_option maxHeartbeats 4000000 in
set_option maxRecDepth 100000 in
theorem k_X4_isAge (l : Launch) (D : va_G) (tys : List (ClassId × FieldType)) (ws : va_W) (v : Int32) : Mi l yX4_isAge cX4_isAge 1 (some .boolean) { frames := 1, cells := 0, slots := 0, locals := 22 } D tys ws [.int v] ws (o_X4_isAge v) := by
  intro sz
  refine ent (by decide +kernel) (Nat.le_of_ble_eq_true rfl) ?_
  intro p e st m below meth c ls S hr hlk hnm w hsz hl
  have hl : lv_has ls 1 [(0, .int v)] := hl
  refine lv_iload_n S.1 S.2.1 dX4_isAge_0 rfl (lv_at hl 0 rfl) ?_
  refine lv_iconst (v := 0) S.1 S.2.1 dX4_isAge_1 (by decide) ?_
  refine lv_iconst (v := 4) S.1 S.2.1 dX4_isAge_2 (by decide) ?_
  refine x_Si (As := [.int v, .int 0, .int 4]) (rest := []) S w (goodS lk_RX4_60 lt_X4_isWithin ln_RX4 lc_X4_isWithin) hd_X4_isWithin (k_X4_isWithin l _ _ ws v 0 4) rfl ⟨(Nat.le_of_ble_eq_true rfl), (Nat.le_of_ble_eq_true rfl)⟩ ⟨rfl, rfl⟩ hl.1 rfl (Nat.le_of_ble_eq_true rfl) ⟨Nat.zero_le _, Nat.zero_le _⟩ dX4_isAge_3 (fun H locs (w : Wd D tys (va_A _ _) _ _ (ws) H locs) => ?_)
  exact x_retz S w hr hlk dX4_isAge_6 (wIn_b _ _ _) (show wIn v 0 4 = o_X4_isAge v from by simp only [o_X4_isAge]) (show ws = ws from rfl)
set_option maxHeartbeats 4000000 in
set_option maxRecDepth 100000 in
theorem k_X4_oneIf (l : Launch) (D : va_G) (tys : List (ClassId × FieldType)) (ws : va_W) (q1 : Int32) : Mi l yX4_oneIf cX4_oneIf 1 (some .int) { frames := 0, cells := 0, slots := 0, locals := 0 } D tys ws [.int q1] ws (onI q1) := by
  intro sz
  refine ent (by decide +kernel) (Nat.le_of_ble_eq_true rfl) ?_
  intro p e st m below meth c ls S hr hlk hnm w hsz hl
  have hl : lv_has ls 1 [(0, .int q1)] := hl
  refine lv_iload_n S.1 S.2.1 dX4_oneIf_0 rfl (lv_at hl 0 rfl) ?_
  refine lv_if_eq (tgt := 8) S.1 S.2.1 dX4_oneIf_1 (by decide) (fun (c_1 : q1 = 0) => ?_) (fun (c_1 : ¬ (q1 = 0)) => ?_)
  · refine lv_iconst (v := 0) S.1 S.2.1 dX4_oneIf_8 (by decide) ?_
    exact x_reti S w hr hlk dX4_oneIf_9 (show 0 = onI q1 from by simp only [onI, if_pos c_1]) (show ws = ws from rfl)
  · refine lv_iconst (v := 1) S.1 S.2.1 dX4_oneIf_4 (by decide) ?_
    refine lv_goto (tgt := 9) S.1 S.2.1 dX4_oneIf_5 (by decide) ?_
    exact x_reti S w hr hlk dX4_oneIf_9 (show 1 = onI q1 from by simp only [onI, if_neg c_1]) (show ws = ws from rfl)
def o_X4_isSample (s : Nat → Int32) (f : Nat → Nat → Int32) (k : Int32) : Int32 := wIn k 0 ((s 0) - 1)
set_option maxHeartbeats 4000000 in
set_option maxRecDepth 100000 in
theorem k_X4_isSample (l : Launch) (D : va_G) (cI cO : ClassId) (a : Nat → Nat) (R : va_W) (s : Nat → Int32) (f : Nat → Nat → Int32) (k : Int32) : Mi l yX4_isSample cX4_isSample 2 (some .boolean) { frames := 1, cells := 0, slots := 0, locals := 22 } D (kT cI cO) (xW cI cO a s f R) [.ref (a 0), .int k] (xW cI cO a s f R) (o_X4_isSample s f k) := by
  intro sz
  refine ent (by decide +kernel) (Nat.le_of_ble_eq_true rfl) ?_
  intro p e st m below meth c ls S hr hlk hnm w hsz hl
  have hl : lv_has ls 2 [(0, .ref (a 0)), (1, .int k)] := hl
  refine lv_iload_n S.1 S.2.1 dX4_isSample_0 rfl (lv_at hl 1 rfl) ?_
  refine lv_iconst (v := 0) S.1 S.2.1 dX4_isSample_1 (by decide) ?_
  refine lv_aload_n S.1 S.2.1 dX4_isSample_2 rfl (lv_at hl 0 rfl) ?_
  refine xr_1 S w lk_RX4_10 dX4_isSample_3 ?_
  refine xg_0 S w lk_RX4_65 dX4_isSample_6 ?_
  refine lv_iconst (v := 1) S.1 S.2.1 dX4_isSample_9 (by decide) ?_
  refine lv_isub S.1 S.2.1 dX4_isSample_10 ?_
  refine x_Si (As := [.int k, .int 0, .int ((s 0) - 1)]) (rest := []) S w (goodS lk_RX4_60 lt_X4_isWithin ln_RX4 lc_X4_isWithin) hd_X4_isWithin (k_X4_isWithin l _ _ (xW cI cO a s f R) k 0 ((s 0) - 1)) rfl ⟨(Nat.le_of_ble_eq_true rfl), (Nat.le_of_ble_eq_true rfl)⟩ ⟨rfl, rfl⟩ hl.1 rfl (Nat.le_of_ble_eq_true rfl) ⟨Nat.zero_le _, Nat.zero_le _⟩ dX4_isSample_11 (fun H locs (w : Wd D (kT cI cO) (va_A _ _) _ _ (xW cI cO a s f R) H locs) => ?_)
  exact x_retz S w hr hlk dX4_isSample_14 (wIn_b _ _ _) (show wIn k 0 ((s 0) - 1) = o_X4_isSample s f k from by simp only [o_X4_isSample]) (show xW cI cO a s f R = xW cI cO a s f R from rfl)
def o_X4_setReference (s : Nat → Int32) (f : Nat → Nat → Int32) (N : Nat) (k : Int32) (v : Int32) : Int32 × (Nat → Nat → Int32) := if (wIn k 0 ((s 0) - 1)) = 0 then ((-2000000001), f) else if (wIn v (-1000000) 1000000) = 0 then ((-2000000001), f) else ((f 0) (Int32.toNatClampNeg k), va_up f 0 (upd (f 0) (Int32.toNatClampNeg k) v))
set_option maxHeartbeats 4000000 in
set_option maxRecDepth 100000 in
theorem k_X4_setReference (l : Launch) (D : va_G) (cI cO : ClassId) (a : Nat → Nat) (R : va_W) (s : Nat → Int32) (f : Nat → Nat → Int32) (N : Nat) (k : Int32) (v : Int32) (hN : s 0 = nI N) (h4 : 4 ≤ N) (h48 : N ≤ 48) : Mi l yX4_setReference cX4_setReference 4 (some .int) { frames := 2, cells := 0, slots := 0, locals := 43 } D (kT cI cO) (xW cI cO a s f R) [.ref (a 0), .int k, .int v] (xW cI cO a s (o_X4_setReference s f N k v).2 R) (o_X4_setReference s f N k v).1 := by
  intro sz
  refine ent (by decide +kernel) (Nat.le_of_ble_eq_true rfl) ?_
  intro p e st m below meth c ls S hr hlk hnm w hsz hl
  have hl : lv_has ls 4 [(0, .ref (a 0)), (1, .int k), (2, .int v)] := hl
  refine lv_aload_n S.1 S.2.1 dX4_setReference_0 rfl (lv_at hl 0 rfl) ?_
  refine lv_iload_n S.1 S.2.1 dX4_setReference_1 rfl (lv_at hl 1 rfl) ?_
  refine x_Vi (As := [.int k]) (rest := []) S w (goodV lk_RX4_69 li_X4_isSample ls_X4_isSample ln_RX4 lc_X4_isSample) hV_X4_isSample (k_X4_isSample l D cI cO a R s f k) rfl 0 4 rfl rfl xc_0 ⟨(Nat.le_of_ble_eq_true rfl), (Nat.le_of_ble_eq_true rfl)⟩ ⟨rfl, rfl⟩ hl.1 rfl (Nat.le_of_ble_eq_true rfl) ⟨Nat.zero_le _, Nat.zero_le _⟩ dX4_setReference_2 (fun H locs (w : Wd D (kT cI cO) (va_A _ _) _ _ (xW cI cO a s f R) H locs) => ?_)
  refine x_eqi (x := o_X4_isSample s f k) (y := wIn k 0 ((s 0) - 1)) rfl ?_
  refine lv_if_eq (tgt := 15) S.1 S.2.1 dX4_setReference_5 (by decide) (fun (c_1 : (wIn k 0 ((s 0) - 1)) = 0) => ?_) (fun (c_1 : ¬ ((wIn k 0 ((s 0) - 1)) = 0)) => ?_)
  · refine x_ldc S lk_RX4_64 dX4_setReference_15 ?_
    exact x_reti S w hr hlk dX4_setReference_17 (show (-2000000001) = (o_X4_setReference s f N k v).1 from by simp only [o_X4_setReference, if_pos c_1]) (show xW cI cO a s f R = xW cI cO a s (o_X4_setReference s f N k v).2 R from by simp only [o_X4_setReference, if_pos c_1])
  · have hj := wIn_j hN h4 h48 c_1
    refine lv_iload_n S.1 S.2.1 dX4_setReference_8 rfl (lv_at hl 2 rfl) ?_
    refine x_Si (As := [.int v]) (rest := []) S w (goodS lk_RX4_73 lt_X4_isSignal ln_RX4 lc_X4_isSignal) hd_X4_isSignal (k_X4_isSignal l _ _ (xW cI cO a s f R) v) rfl ⟨(Nat.le_of_ble_eq_true rfl), (Nat.le_of_ble_eq_true rfl)⟩ ⟨rfl, rfl⟩ hl.1 rfl (Nat.le_of_ble_eq_true rfl) ⟨Nat.zero_le _, Nat.zero_le _⟩ dX4_setReference_9 (fun H locs (w : Wd D (kT cI cO) (va_A _ _) _ _ (xW cI cO a s f R) H locs) => ?_)
    refine x_eqi (x := o_X4_isSignal v) (y := wIn v (-1000000) 1000000) rfl ?_
    refine lv_if_ne (tgt := 18) S.1 S.2.1 dX4_setReference_12 (by decide) (fun (c_2 : ¬ (wIn v (-1000000) 1000000) = 0) => ?_) (fun (c_2 : (wIn v (-1000000) 1000000) = 0) => ?_)
    · refine lv_aload_n S.1 S.2.1 dX4_setReference_18 rfl (lv_at hl 0 rfl) ?_
      refine xr_5 S w lk_RX4_37 dX4_setReference_19 ?_
      refine lv_iload_n S.1 S.2.1 dX4_setReference_22 rfl (lv_at hl 1 rfl) ?_
      refine x_iald S w 5 0 (g := f 0) (v := (f 0) (Int32.toNatClampNeg k)) (Int32.toNatClampNeg k) (by have := hj.1; omega) (hj.2) (Nat.le_of_ble_eq_true rfl) (xc_5) rfl (rfl) dX4_setReference_23 ?_
      refine lv_istore_n (lv' := [(3, .int ((f 0) (Int32.toNatClampNeg k))), (0, .ref (a 0)), (1, .int k), (2, .int v)]) S.1 S.2.1 dX4_setReference_24 rfl hl (by decide) rfl (fun ls hl => ?_)
      refine lv_aload_n S.1 S.2.1 dX4_setReference_25 rfl (lv_at hl 1 rfl) ?_
      refine xr_5 S w lk_RX4_37 dX4_setReference_26 ?_
      refine lv_iload_n S.1 S.2.1 dX4_setReference_29 rfl (lv_at hl 2 rfl) ?_
      refine lv_iload_n S.1 S.2.1 dX4_setReference_30 rfl (lv_at hl 3 rfl) ?_
      refine x_iast S w 5 0 (g := f 0) (Int32.toNatClampNeg k) (by have := hj.1; omega) (hj.2) (Nat.le_of_ble_eq_true rfl) (xc_5) rfl (xs_0) dX4_setReference_31 (fun H locs (w : Wd D (kT cI cO) (va_A _ _) _ _ (xW cI cO a s (va_up f 0 (upd (f 0) (Int32.toNatClampNeg k) v)) R) H locs) => ?_)
      refine lv_iload_n S.1 S.2.1 dX4_setReference_32 rfl (lv_at hl 0 rfl) ?_
      exact x_reti S w hr hlk dX4_setReference_33 (show (f 0) (Int32.toNatClampNeg k) = (o_X4_setReference s f N k v).1 from by simp only [o_X4_setReference, if_neg c_1, if_neg c_2]) (show xW cI cO a s (va_up f 0 (upd (f 0) (Int32.toNatClampNeg k) v)) R = xW cI cO a s (o_X4_setReference s f N k v).2 R from by simp only [o_X4_setReference, if_neg c_1, if_neg c_2])
    · refine x_ldc S lk_RX4_64 dX4_setReference_15 ?_
      exact x_reti S w hr hlk dX4_setReference_17 (show (-2000000001) = (o_X4_setReference s f N k v).1 from by simp only [o_X4_setReference, if_neg c_1, if_pos c_2]) (show xW cI cO a s f R = xW cI cO a s (o_X4_setReference s f N k v).2 R from by simp only [o_X4_setReference, if_neg c_1, if_pos c_2])
def o_X4_setGain (s : Nat → Int32) (f : Nat → Nat → Int32) (g : Int32) (d : Int32) : Int32 × (Nat → Int32) := if (wIn g 0 2000) = 0 then ((-2000000001), s) else if (wIn d 0 8) = 0 then ((-2000000001), s) else if g = (s 1) then if d = (s 2) then (onI 0, upd (upd s 1 g) 2 d) else (onI 1, upd (upd s 1 g) 2 d) else (onI 1, upd (upd s 1 g) 2 d)
set_option maxHeartbeats 4000000 in
set_option maxRecDepth 100000 in
theorem k_X4_setGain (l : Launch) (D : va_G) (cI cO : ClassId) (a : Nat → Nat) (R : va_W) (s : Nat → Int32) (f : Nat → Nat → Int32) (g : Int32) (d : Int32) : Mi l yX4_setGain cX4_setGain 4 (some .int) { frames := 1, cells := 0, slots := 0, locals := 22 } D (kT cI cO) (xW cI cO a s f R) [.ref (a 0), .int g, .int d] (xW cI cO a (o_X4_setGain s f g d).2 f R) (o_X4_setGain s f g d).1 := by
  intro sz
  refine ent (by decide +kernel) (Nat.le_of_ble_eq_true rfl) ?_
  intro p e st m below meth c ls S hr hlk hnm w hsz hl
  have hl : lv_has ls 4 [(0, .ref (a 0)), (1, .int g), (2, .int d)] := hl
  refine lv_iload_n S.1 S.2.1 dX4_setGain_0 rfl (lv_at hl 1 rfl) ?_
  refine lv_iconst (v := 0) S.1 S.2.1 dX4_setGain_1 (by decide) ?_
  refine lv_sipush (v := 2000) S.1 S.2.1 dX4_setGain_2 (by decide) ?_
  refine x_Si (As := [.int g, .int 0, .int 2000]) (rest := []) S w (goodS lk_RX4_60 lt_X4_isWithin ln_RX4 lc_X4_isWithin) hd_X4_isWithin (k_X4_isWithin l _ _ (xW cI cO a s f R) g 0 2000) rfl ⟨(Nat.le_of_ble_eq_true rfl), (Nat.le_of_ble_eq_true rfl)⟩ ⟨rfl, rfl⟩ hl.1 rfl (Nat.le_of_ble_eq_true rfl) ⟨Nat.zero_le _, Nat.zero_le _⟩ dX4_setGain_5 (fun H locs (w : Wd D (kT cI cO) (va_A _ _) _ _ (xW cI cO a s f R) H locs) => ?_)
  refine lv_if_eq (tgt := 21) S.1 S.2.1 dX4_setGain_8 (by decide) (fun (c_1 : (wIn g 0 2000) = 0) => ?_) (fun (c_1 : ¬ ((wIn g 0 2000) = 0)) => ?_)
  · refine x_ldc S lk_RX4_64 dX4_setGain_21 ?_
    exact x_reti S w hr hlk dX4_setGain_23 (show (-2000000001) = (o_X4_setGain s f g d).1 from by simp only [o_X4_setGain, if_pos c_1]) (show xW cI cO a s f R = xW cI cO a (o_X4_setGain s f g d).2 f R from by simp only [o_X4_setGain, if_pos c_1])
  · refine lv_iload_n S.1 S.2.1 dX4_setGain_11 rfl (lv_at hl 2 rfl) ?_
    refine lv_iconst (v := 0) S.1 S.2.1 dX4_setGain_12 (by decide) ?_
    refine lv_bipush (v := 8) S.1 S.2.1 dX4_setGain_13 (by decide) ?_
    refine x_Si (As := [.int d, .int 0, .int 8]) (rest := []) S w (goodS lk_RX4_60 lt_X4_isWithin ln_RX4 lc_X4_isWithin) hd_X4_isWithin (k_X4_isWithin l _ _ (xW cI cO a s f R) d 0 8) rfl ⟨(Nat.le_of_ble_eq_true rfl), (Nat.le_of_ble_eq_true rfl)⟩ ⟨rfl, rfl⟩ hl.1 rfl (Nat.le_of_ble_eq_true rfl) ⟨Nat.zero_le _, Nat.zero_le _⟩ dX4_setGain_15 (fun H locs (w : Wd D (kT cI cO) (va_A _ _) _ _ (xW cI cO a s f R) H locs) => ?_)
    refine lv_if_ne (tgt := 24) S.1 S.2.1 dX4_setGain_18 (by decide) (fun (c_2 : ¬ (wIn d 0 8) = 0) => ?_) (fun (c_2 : (wIn d 0 8) = 0) => ?_)
    · refine lv_iload_n S.1 S.2.1 dX4_setGain_24 rfl (lv_at hl 1 rfl) ?_
      refine lv_aload_n S.1 S.2.1 dX4_setGain_25 rfl (lv_at hl 0 rfl) ?_
      refine xr_1 S w lk_RX4_10 dX4_setGain_26 ?_
      refine xg_1 S w lk_RX4_76 dX4_setGain_29 ?_
      refine lv_icmp_ne (tgt := 46) S.1 S.2.1 dX4_setGain_32 (by decide) (fun (c_3 : ¬ g = (s 1)) => ?_) (fun (c_3 : g = (s 1)) => ?_)
      · refine lv_iconst (v := 1) S.1 S.2.1 dX4_setGain_46 (by decide) ?_
        refine lv_goto (tgt := 51) S.1 S.2.1 dX4_setGain_47 (by decide) ?_
        refine lv_istore_n (lv' := [(3, .int 1), (0, .ref (a 0)), (1, .int g), (2, .int d)]) S.1 S.2.1 dX4_setGain_51 rfl hl (by decide) rfl (fun ls hl => ?_)
        refine lv_aload_n S.1 S.2.1 dX4_setGain_52 rfl (lv_at hl 1 rfl) ?_
        refine xr_1 S w lk_RX4_10 dX4_setGain_53 ?_
        refine lv_iload_n S.1 S.2.1 dX4_setGain_56 rfl (lv_at hl 2 rfl) ?_
        refine xp_1 S w lk_RX4_76 dX4_setGain_57 (fun H locs (w : Wd D (kT cI cO) (va_A _ _) _ _ (xW cI cO a (upd s 1 g) f R) H locs) => ?_)
        refine lv_aload_n S.1 S.2.1 dX4_setGain_60 rfl (lv_at hl 1 rfl) ?_
        refine xr_1 S w lk_RX4_10 dX4_setGain_61 ?_
        refine lv_iload_n S.1 S.2.1 dX4_setGain_64 rfl (lv_at hl 3 rfl) ?_
        refine xp_2 S w lk_RX4_79 dX4_setGain_65 (fun H locs (w : Wd D (kT cI cO) (va_A _ _) _ _ (xW cI cO a (upd (upd s 1 g) 2 d) f R) H locs) => ?_)
        refine lv_iload_n S.1 S.2.1 dX4_setGain_68 rfl (lv_at hl 0 rfl) ?_
        refine x_Si (As := [.int 1]) (rest := []) S w (goodS lk_RX4_82 lt_X4_oneIf ln_RX4 lc_X4_oneIf) hd_X4_oneIf (k_X4_oneIf l _ _ (xW cI cO a (upd (upd s 1 g) 2 d) f R) 1) rfl ⟨(Nat.le_of_ble_eq_true rfl), (Nat.le_of_ble_eq_true rfl)⟩ ⟨rfl, rfl⟩ hl.1 rfl (Nat.le_of_ble_eq_true rfl) ⟨Nat.zero_le _, Nat.zero_le _⟩ dX4_setGain_69 (fun H locs (w : Wd D (kT cI cO) (va_A _ _) _ _ (xW cI cO a (upd (upd s 1 g) 2 d) f R) H locs) => ?_)
        exact x_reti S w hr hlk dX4_setGain_72 (show onI 1 = (o_X4_setGain s f g d).1 from by simp only [o_X4_setGain, if_neg c_1, if_neg c_2, if_neg c_3]) (show xW cI cO a (upd (upd s 1 g) 2 d) f R = xW cI cO a (o_X4_setGain s f g d).2 f R from by simp only [o_X4_setGain, if_neg c_1, if_neg c_2, if_neg c_3])
      · refine lv_iload_n S.1 S.2.1 dX4_setGain_35 rfl (lv_at hl 2 rfl) ?_
        refine lv_aload_n S.1 S.2.1 dX4_setGain_36 rfl (lv_at hl 0 rfl) ?_
        refine xr_1 S w lk_RX4_10 dX4_setGain_37 ?_
        refine xg_2 S w lk_RX4_79 dX4_setGain_40 ?_
        refine lv_icmp_eq (tgt := 50) S.1 S.2.1 dX4_setGain_43 (by decide) (fun (c_4 : d = (s 2)) => ?_) (fun (c_4 : ¬ (d = (s 2))) => ?_)
        · refine lv_iconst (v := 0) S.1 S.2.1 dX4_setGain_50 (by decide) ?_
          refine lv_istore_n (lv' := [(3, .int 0), (0, .ref (a 0)), (1, .int g), (2, .int d)]) S.1 S.2.1 dX4_setGain_51 rfl hl (by decide) rfl (fun ls hl => ?_)
          refine lv_aload_n S.1 S.2.1 dX4_setGain_52 rfl (lv_at hl 1 rfl) ?_
          refine xr_1 S w lk_RX4_10 dX4_setGain_53 ?_
          refine lv_iload_n S.1 S.2.1 dX4_setGain_56 rfl (lv_at hl 2 rfl) ?_
          refine xp_1 S w lk_RX4_76 dX4_setGain_57 (fun H locs (w : Wd D (kT cI cO) (va_A _ _) _ _ (xW cI cO a (upd s 1 g) f R) H locs) => ?_)
          refine lv_aload_n S.1 S.2.1 dX4_setGain_60 rfl (lv_at hl 1 rfl) ?_
          refine xr_1 S w lk_RX4_10 dX4_setGain_61 ?_
          refine lv_iload_n S.1 S.2.1 dX4_setGain_64 rfl (lv_at hl 3 rfl) ?_
          refine xp_2 S w lk_RX4_79 dX4_setGain_65 (fun H locs (w : Wd D (kT cI cO) (va_A _ _) _ _ (xW cI cO a (upd (upd s 1 g) 2 d) f R) H locs) => ?_)
          refine lv_iload_n S.1 S.2.1 dX4_setGain_68 rfl (lv_at hl 0 rfl) ?_
          refine x_Si (As := [.int 0]) (rest := []) S w (goodS lk_RX4_82 lt_X4_oneIf ln_RX4 lc_X4_oneIf) hd_X4_oneIf (k_X4_oneIf l _ _ (xW cI cO a (upd (upd s 1 g) 2 d) f R) 0) rfl ⟨(Nat.le_of_ble_eq_true rfl), (Nat.le_of_ble_eq_true rfl)⟩ ⟨rfl, rfl⟩ hl.1 rfl (Nat.le_of_ble_eq_true rfl) ⟨Nat.zero_le _, Nat.zero_le _⟩ dX4_setGain_69 (fun H locs (w : Wd D (kT cI cO) (va_A _ _) _ _ (xW cI cO a (upd (upd s 1 g) 2 d) f R) H locs) => ?_)
          exact x_reti S w hr hlk dX4_setGain_72 (show onI 0 = (o_X4_setGain s f g d).1 from by simp only [o_X4_setGain, if_neg c_1, if_neg c_2, if_pos c_3, if_pos c_4]) (show xW cI cO a (upd (upd s 1 g) 2 d) f R = xW cI cO a (o_X4_setGain s f g d).2 f R from by simp only [o_X4_setGain, if_neg c_1, if_neg c_2, if_pos c_3, if_pos c_4])
        · refine lv_iconst (v := 1) S.1 S.2.1 dX4_setGain_46 (by decide) ?_
          refine lv_goto (tgt := 51) S.1 S.2.1 dX4_setGain_47 (by decide) ?_
          refine lv_istore_n (lv' := [(3, .int 1), (0, .ref (a 0)), (1, .int g), (2, .int d)]) S.1 S.2.1 dX4_setGain_51 rfl hl (by decide) rfl (fun ls hl => ?_)
          refine lv_aload_n S.1 S.2.1 dX4_setGain_52 rfl (lv_at hl 1 rfl) ?_
          refine xr_1 S w lk_RX4_10 dX4_setGain_53 ?_
          refine lv_iload_n S.1 S.2.1 dX4_setGain_56 rfl (lv_at hl 2 rfl) ?_
          refine xp_1 S w lk_RX4_76 dX4_setGain_57 (fun H locs (w : Wd D (kT cI cO) (va_A _ _) _ _ (xW cI cO a (upd s 1 g) f R) H locs) => ?_)
          refine lv_aload_n S.1 S.2.1 dX4_setGain_60 rfl (lv_at hl 1 rfl) ?_
          refine xr_1 S w lk_RX4_10 dX4_setGain_61 ?_
          refine lv_iload_n S.1 S.2.1 dX4_setGain_64 rfl (lv_at hl 3 rfl) ?_
          refine xp_2 S w lk_RX4_79 dX4_setGain_65 (fun H locs (w : Wd D (kT cI cO) (va_A _ _) _ _ (xW cI cO a (upd (upd s 1 g) 2 d) f R) H locs) => ?_)
          refine lv_iload_n S.1 S.2.1 dX4_setGain_68 rfl (lv_at hl 0 rfl) ?_
          refine x_Si (As := [.int 1]) (rest := []) S w (goodS lk_RX4_82 lt_X4_oneIf ln_RX4 lc_X4_oneIf) hd_X4_oneIf (k_X4_oneIf l _ _ (xW cI cO a (upd (upd s 1 g) 2 d) f R) 1) rfl ⟨(Nat.le_of_ble_eq_true rfl), (Nat.le_of_ble_eq_true rfl)⟩ ⟨rfl, rfl⟩ hl.1 rfl (Nat.le_of_ble_eq_true rfl) ⟨Nat.zero_le _, Nat.zero_le _⟩ dX4_setGain_69 (fun H locs (w : Wd D (kT cI cO) (va_A _ _) _ _ (xW cI cO a (upd (upd s 1 g) 2 d) f R) H locs) => ?_)
          exact x_reti S w hr hlk dX4_setGain_72 (show onI 1 = (o_X4_setGain s f g d).1 from by simp only [o_X4_setGain, if_neg c_1, if_neg c_2, if_pos c_3, if_neg c_4]) (show xW cI cO a (upd (upd s 1 g) 2 d) f R = xW cI cO a (o_X4_setGain s f g d).2 f R from by simp only [o_X4_setGain, if_neg c_1, if_neg c_2, if_pos c_3, if_neg c_4])
    · refine x_ldc S lk_RX4_64 dX4_setGain_21 ?_
      exact x_reti S w hr hlk dX4_setGain_23 (show (-2000000001) = (o_X4_setGain s f g d).1 from by simp only [o_X4_setGain, if_neg c_1, if_pos c_2]) (show xW cI cO a s f R = xW cI cO a (o_X4_setGain s f g d).2 f R from by simp only [o_X4_setGain, if_neg c_1, if_pos c_2])
def o_X4_setSmoothing (s : Nat → Int32) (f : Nat → Nat → Int32) (g : Int32) (d : Int32) : Int32 × (Nat → Int32) := if (wIn g 0 333) = 0 then ((-2000000001), s) else if (wIn d 0 4) = 0 then ((-2000000001), s) else if g = (s 3) then if d = (s 4) then (onI 0, upd (upd s 3 g) 4 d) else (onI 1, upd (upd s 3 g) 4 d) else (onI 1, upd (upd s 3 g) 4 d)
set_option maxHeartbeats 4000000 in
set_option maxRecDepth 100000 in
theorem k_X4_setSmoothing (l : Launch) (D : va_G) (cI cO : ClassId) (a : Nat → Nat) (R : va_W) (s : Nat → Int32) (f : Nat → Nat → Int32) (g : Int32) (d : Int32) : Mi l yX4_setSmoothing cX4_setSmoothing 4 (some .int) { frames := 1, cells := 0, slots := 0, locals := 22 } D (kT cI cO) (xW cI cO a s f R) [.ref (a 0), .int g, .int d] (xW cI cO a (o_X4_setSmoothing s f g d).2 f R) (o_X4_setSmoothing s f g d).1 := by
  intro sz
  refine ent (by decide +kernel) (Nat.le_of_ble_eq_true rfl) ?_
  intro p e st m below meth c ls S hr hlk hnm w hsz hl
  have hl : lv_has ls 4 [(0, .ref (a 0)), (1, .int g), (2, .int d)] := hl
  refine lv_iload_n S.1 S.2.1 dX4_setSmoothing_0 rfl (lv_at hl 1 rfl) ?_
  refine lv_iconst (v := 0) S.1 S.2.1 dX4_setSmoothing_1 (by decide) ?_
  refine lv_sipush (v := 333) S.1 S.2.1 dX4_setSmoothing_2 (by decide) ?_
  refine x_Si (As := [.int g, .int 0, .int 333]) (rest := []) S w (goodS lk_RX4_60 lt_X4_isWithin ln_RX4 lc_X4_isWithin) hd_X4_isWithin (k_X4_isWithin l _ _ (xW cI cO a s f R) g 0 333) rfl ⟨(Nat.le_of_ble_eq_true rfl), (Nat.le_of_ble_eq_true rfl)⟩ ⟨rfl, rfl⟩ hl.1 rfl (Nat.le_of_ble_eq_true rfl) ⟨Nat.zero_le _, Nat.zero_le _⟩ dX4_setSmoothing_5 (fun H locs (w : Wd D (kT cI cO) (va_A _ _) _ _ (xW cI cO a s f R) H locs) => ?_)
  refine lv_if_eq (tgt := 20) S.1 S.2.1 dX4_setSmoothing_8 (by decide) (fun (c_1 : (wIn g 0 333) = 0) => ?_) (fun (c_1 : ¬ ((wIn g 0 333) = 0)) => ?_)
  · refine x_ldc S lk_RX4_64 dX4_setSmoothing_20 ?_
    exact x_reti S w hr hlk dX4_setSmoothing_22 (show (-2000000001) = (o_X4_setSmoothing s f g d).1 from by simp only [o_X4_setSmoothing, if_pos c_1]) (show xW cI cO a s f R = xW cI cO a (o_X4_setSmoothing s f g d).2 f R from by simp only [o_X4_setSmoothing, if_pos c_1])
  · refine lv_iload_n S.1 S.2.1 dX4_setSmoothing_11 rfl (lv_at hl 2 rfl) ?_
    refine lv_iconst (v := 0) S.1 S.2.1 dX4_setSmoothing_12 (by decide) ?_
    refine lv_iconst (v := 4) S.1 S.2.1 dX4_setSmoothing_13 (by decide) ?_
    refine x_Si (As := [.int d, .int 0, .int 4]) (rest := []) S w (goodS lk_RX4_60 lt_X4_isWithin ln_RX4 lc_X4_isWithin) hd_X4_isWithin (k_X4_isWithin l _ _ (xW cI cO a s f R) d 0 4) rfl ⟨(Nat.le_of_ble_eq_true rfl), (Nat.le_of_ble_eq_true rfl)⟩ ⟨rfl, rfl⟩ hl.1 rfl (Nat.le_of_ble_eq_true rfl) ⟨Nat.zero_le _, Nat.zero_le _⟩ dX4_setSmoothing_14 (fun H locs (w : Wd D (kT cI cO) (va_A _ _) _ _ (xW cI cO a s f R) H locs) => ?_)
    refine lv_if_ne (tgt := 23) S.1 S.2.1 dX4_setSmoothing_17 (by decide) (fun (c_2 : ¬ (wIn d 0 4) = 0) => ?_) (fun (c_2 : (wIn d 0 4) = 0) => ?_)
    · refine lv_iload_n S.1 S.2.1 dX4_setSmoothing_23 rfl (lv_at hl 1 rfl) ?_
      refine lv_aload_n S.1 S.2.1 dX4_setSmoothing_24 rfl (lv_at hl 0 rfl) ?_
      refine xr_1 S w lk_RX4_10 dX4_setSmoothing_25 ?_
      refine xg_3 S w lk_RX4_86 dX4_setSmoothing_28 ?_
      refine lv_icmp_ne (tgt := 45) S.1 S.2.1 dX4_setSmoothing_31 (by decide) (fun (c_3 : ¬ g = (s 3)) => ?_) (fun (c_3 : g = (s 3)) => ?_)
      · refine lv_iconst (v := 1) S.1 S.2.1 dX4_setSmoothing_45 (by decide) ?_
        refine lv_goto (tgt := 50) S.1 S.2.1 dX4_setSmoothing_46 (by decide) ?_
        refine lv_istore_n (lv' := [(3, .int 1), (0, .ref (a 0)), (1, .int g), (2, .int d)]) S.1 S.2.1 dX4_setSmoothing_50 rfl hl (by decide) rfl (fun ls hl => ?_)
        refine lv_aload_n S.1 S.2.1 dX4_setSmoothing_51 rfl (lv_at hl 1 rfl) ?_
        refine xr_1 S w lk_RX4_10 dX4_setSmoothing_52 ?_
        refine lv_iload_n S.1 S.2.1 dX4_setSmoothing_55 rfl (lv_at hl 2 rfl) ?_
        refine xp_3 S w lk_RX4_86 dX4_setSmoothing_56 (fun H locs (w : Wd D (kT cI cO) (va_A _ _) _ _ (xW cI cO a (upd s 3 g) f R) H locs) => ?_)
        refine lv_aload_n S.1 S.2.1 dX4_setSmoothing_59 rfl (lv_at hl 1 rfl) ?_
        refine xr_1 S w lk_RX4_10 dX4_setSmoothing_60 ?_
        refine lv_iload_n S.1 S.2.1 dX4_setSmoothing_63 rfl (lv_at hl 3 rfl) ?_
        refine xp_4 S w lk_RX4_89 dX4_setSmoothing_64 (fun H locs (w : Wd D (kT cI cO) (va_A _ _) _ _ (xW cI cO a (upd (upd s 3 g) 4 d) f R) H locs) => ?_)
        refine lv_iload_n S.1 S.2.1 dX4_setSmoothing_67 rfl (lv_at hl 0 rfl) ?_
        refine x_Si (As := [.int 1]) (rest := []) S w (goodS lk_RX4_82 lt_X4_oneIf ln_RX4 lc_X4_oneIf) hd_X4_oneIf (k_X4_oneIf l _ _ (xW cI cO a (upd (upd s 3 g) 4 d) f R) 1) rfl ⟨(Nat.le_of_ble_eq_true rfl), (Nat.le_of_ble_eq_true rfl)⟩ ⟨rfl, rfl⟩ hl.1 rfl (Nat.le_of_ble_eq_true rfl) ⟨Nat.zero_le _, Nat.zero_le _⟩ dX4_setSmoothing_68 (fun H locs (w : Wd D (kT cI cO) (va_A _ _) _ _ (xW cI cO a (upd (upd s 3 g) 4 d) f R) H locs) => ?_)
        exact x_reti S w hr hlk dX4_setSmoothing_71 (show onI 1 = (o_X4_setSmoothing s f g d).1 from by simp only [o_X4_setSmoothing, if_neg c_1, if_neg c_2, if_neg c_3]) (show xW cI cO a (upd (upd s 3 g) 4 d) f R = xW cI cO a (o_X4_setSmoothing s f g d).2 f R from by simp only [o_X4_setSmoothing, if_neg c_1, if_neg c_2, if_neg c_3])
      · refine lv_iload_n S.1 S.2.1 dX4_setSmoothing_34 rfl (lv_at hl 2 rfl) ?_
        refine lv_aload_n S.1 S.2.1 dX4_setSmoothing_35 rfl (lv_at hl 0 rfl) ?_
        refine xr_1 S w lk_RX4_10 dX4_setSmoothing_36 ?_
        refine xg_4 S w lk_RX4_89 dX4_setSmoothing_39 ?_
        refine lv_icmp_eq (tgt := 49) S.1 S.2.1 dX4_setSmoothing_42 (by decide) (fun (c_4 : d = (s 4)) => ?_) (fun (c_4 : ¬ (d = (s 4))) => ?_)
        · refine lv_iconst (v := 0) S.1 S.2.1 dX4_setSmoothing_49 (by decide) ?_
          refine lv_istore_n (lv' := [(3, .int 0), (0, .ref (a 0)), (1, .int g), (2, .int d)]) S.1 S.2.1 dX4_setSmoothing_50 rfl hl (by decide) rfl (fun ls hl => ?_)
          refine lv_aload_n S.1 S.2.1 dX4_setSmoothing_51 rfl (lv_at hl 1 rfl) ?_
          refine xr_1 S w lk_RX4_10 dX4_setSmoothing_52 ?_
          refine lv_iload_n S.1 S.2.1 dX4_setSmoothing_55 rfl (lv_at hl 2 rfl) ?_
          refine xp_3 S w lk_RX4_86 dX4_setSmoothing_56 (fun H locs (w : Wd D (kT cI cO) (va_A _ _) _ _ (xW cI cO a (upd s 3 g) f R) H locs) => ?_)
          refine lv_aload_n S.1 S.2.1 dX4_setSmoothing_59 rfl (lv_at hl 1 rfl) ?_
          refine xr_1 S w lk_RX4_10 dX4_setSmoothing_60 ?_
          refine lv_iload_n S.1 S.2.1 dX4_setSmoothing_63 rfl (lv_at hl 3 rfl) ?_
          refine xp_4 S w lk_RX4_89 dX4_setSmoothing_64 (fun H locs (w : Wd D (kT cI cO) (va_A _ _) _ _ (xW cI cO a (upd (upd s 3 g) 4 d) f R) H locs) => ?_)
          refine lv_iload_n S.1 S.2.1 dX4_setSmoothing_67 rfl (lv_at hl 0 rfl) ?_
          refine x_Si (As := [.int 0]) (rest := []) S w (goodS lk_RX4_82 lt_X4_oneIf ln_RX4 lc_X4_oneIf) hd_X4_oneIf (k_X4_oneIf l _ _ (xW cI cO a (upd (upd s 3 g) 4 d) f R) 0) rfl ⟨(Nat.le_of_ble_eq_true rfl), (Nat.le_of_ble_eq_true rfl)⟩ ⟨rfl, rfl⟩ hl.1 rfl (Nat.le_of_ble_eq_true rfl) ⟨Nat.zero_le _, Nat.zero_le _⟩ dX4_setSmoothing_68 (fun H locs (w : Wd D (kT cI cO) (va_A _ _) _ _ (xW cI cO a (upd (upd s 3 g) 4 d) f R) H locs) => ?_)
          exact x_reti S w hr hlk dX4_setSmoothing_71 (show onI 0 = (o_X4_setSmoothing s f g d).1 from by simp only [o_X4_setSmoothing, if_neg c_1, if_neg c_2, if_pos c_3, if_pos c_4]) (show xW cI cO a (upd (upd s 3 g) 4 d) f R = xW cI cO a (o_X4_setSmoothing s f g d).2 f R from by simp only [o_X4_setSmoothing, if_neg c_1, if_neg c_2, if_pos c_3, if_pos c_4])
        · refine lv_iconst (v := 1) S.1 S.2.1 dX4_setSmoothing_45 (by decide) ?_
          refine lv_goto (tgt := 50) S.1 S.2.1 dX4_setSmoothing_46 (by decide) ?_
          refine lv_istore_n (lv' := [(3, .int 1), (0, .ref (a 0)), (1, .int g), (2, .int d)]) S.1 S.2.1 dX4_setSmoothing_50 rfl hl (by decide) rfl (fun ls hl => ?_)
          refine lv_aload_n S.1 S.2.1 dX4_setSmoothing_51 rfl (lv_at hl 1 rfl) ?_
          refine xr_1 S w lk_RX4_10 dX4_setSmoothing_52 ?_
          refine lv_iload_n S.1 S.2.1 dX4_setSmoothing_55 rfl (lv_at hl 2 rfl) ?_
          refine xp_3 S w lk_RX4_86 dX4_setSmoothing_56 (fun H locs (w : Wd D (kT cI cO) (va_A _ _) _ _ (xW cI cO a (upd s 3 g) f R) H locs) => ?_)
          refine lv_aload_n S.1 S.2.1 dX4_setSmoothing_59 rfl (lv_at hl 1 rfl) ?_
          refine xr_1 S w lk_RX4_10 dX4_setSmoothing_60 ?_
          refine lv_iload_n S.1 S.2.1 dX4_setSmoothing_63 rfl (lv_at hl 3 rfl) ?_
          refine xp_4 S w lk_RX4_89 dX4_setSmoothing_64 (fun H locs (w : Wd D (kT cI cO) (va_A _ _) _ _ (xW cI cO a (upd (upd s 3 g) 4 d) f R) H locs) => ?_)
          refine lv_iload_n S.1 S.2.1 dX4_setSmoothing_67 rfl (lv_at hl 0 rfl) ?_
          refine x_Si (As := [.int 1]) (rest := []) S w (goodS lk_RX4_82 lt_X4_oneIf ln_RX4 lc_X4_oneIf) hd_X4_oneIf (k_X4_oneIf l _ _ (xW cI cO a (upd (upd s 3 g) 4 d) f R) 1) rfl ⟨(Nat.le_of_ble_eq_true rfl), (Nat.le_of_ble_eq_true rfl)⟩ ⟨rfl, rfl⟩ hl.1 rfl (Nat.le_of_ble_eq_true rfl) ⟨Nat.zero_le _, Nat.zero_le _⟩ dX4_setSmoothing_68 (fun H locs (w : Wd D (kT cI cO) (va_A _ _) _ _ (xW cI cO a (upd (upd s 3 g) 4 d) f R) H locs) => ?_)
          exact x_reti S w hr hlk dX4_setSmoothing_71 (show onI 1 = (o_X4_setSmoothing s f g d).1 from by simp only [o_X4_setSmoothing, if_neg c_1, if_neg c_2, if_pos c_3, if_neg c_4]) (show xW cI cO a (upd (upd s 3 g) 4 d) f R = xW cI cO a (o_X4_setSmoothing s f g d).2 f R from by simp only [o_X4_setSmoothing, if_neg c_1, if_neg c_2, if_pos c_3, if_neg c_4])
    · refine x_ldc S lk_RX4_64 dX4_setSmoothing_20 ?_
      exact x_reti S w hr hlk dX4_setSmoothing_22 (show (-2000000001) = (o_X4_setSmoothing s f g d).1 from by simp only [o_X4_setSmoothing, if_neg c_1, if_pos c_2]) (show xW cI cO a s f R = xW cI cO a (o_X4_setSmoothing s f g d).2 f R from by simp only [o_X4_setSmoothing, if_neg c_1, if_pos c_2])
def o_X4_setLimits (s : Nat → Int32) (f : Nat → Nat → Int32) (g : Int32) (d : Int32) : Int32 × (Nat → Int32) := if (wIn g 1 1000000) = 0 then ((-2000000001), s) else if (wIn d 1 10) = 0 then ((-2000000001), s) else if g = (s 5) then if d = (s 6) then (onI 0, upd (upd s 5 g) 6 d) else (onI 1, upd (upd s 5 g) 6 d) else (onI 1, upd (upd s 5 g) 6 d)
set_option maxHeartbeats 4000000 in
set_option maxRecDepth 100000 in
theorem k_X4_setLimits (l : Launch) (D : va_G) (cI cO : ClassId) (a : Nat → Nat) (R : va_W) (s : Nat → Int32) (f : Nat → Nat → Int32) (g : Int32) (d : Int32) : Mi l yX4_setLimits cX4_setLimits 4 (some .int) { frames := 1, cells := 0, slots := 0, locals := 22 } D (kT cI cO) (xW cI cO a s f R) [.ref (a 0), .int g, .int d] (xW cI cO a (o_X4_setLimits s f g d).2 f R) (o_X4_setLimits s f g d).1 := by
  intro sz
  refine ent (by decide +kernel) (Nat.le_of_ble_eq_true rfl) ?_
  intro p e st m below meth c ls S hr hlk hnm w hsz hl
  have hl : lv_has ls 4 [(0, .ref (a 0)), (1, .int g), (2, .int d)] := hl
  refine lv_iload_n S.1 S.2.1 dX4_setLimits_0 rfl (lv_at hl 1 rfl) ?_
  refine lv_iconst (v := 1) S.1 S.2.1 dX4_setLimits_1 (by decide) ?_
  refine x_ldc S lk_RX4_92 dX4_setLimits_2 ?_
  refine x_Si (As := [.int g, .int 1, .int 1000000]) (rest := []) S w (goodS lk_RX4_60 lt_X4_isWithin ln_RX4 lc_X4_isWithin) hd_X4_isWithin (k_X4_isWithin l _ _ (xW cI cO a s f R) g 1 1000000) rfl ⟨(Nat.le_of_ble_eq_true rfl), (Nat.le_of_ble_eq_true rfl)⟩ ⟨rfl, rfl⟩ hl.1 rfl (Nat.le_of_ble_eq_true rfl) ⟨Nat.zero_le _, Nat.zero_le _⟩ dX4_setLimits_4 (fun H locs (w : Wd D (kT cI cO) (va_A _ _) _ _ (xW cI cO a s f R) H locs) => ?_)
  refine lv_if_eq (tgt := 20) S.1 S.2.1 dX4_setLimits_7 (by decide) (fun (c_1 : (wIn g 1 1000000) = 0) => ?_) (fun (c_1 : ¬ ((wIn g 1 1000000) = 0)) => ?_)
  · refine x_ldc S lk_RX4_64 dX4_setLimits_20 ?_
    exact x_reti S w hr hlk dX4_setLimits_22 (show (-2000000001) = (o_X4_setLimits s f g d).1 from by simp only [o_X4_setLimits, if_pos c_1]) (show xW cI cO a s f R = xW cI cO a (o_X4_setLimits s f g d).2 f R from by simp only [o_X4_setLimits, if_pos c_1])
  · refine lv_iload_n S.1 S.2.1 dX4_setLimits_10 rfl (lv_at hl 2 rfl) ?_
    refine lv_iconst (v := 1) S.1 S.2.1 dX4_setLimits_11 (by decide) ?_
    refine lv_bipush (v := 10) S.1 S.2.1 dX4_setLimits_12 (by decide) ?_
    refine x_Si (As := [.int d, .int 1, .int 10]) (rest := []) S w (goodS lk_RX4_60 lt_X4_isWithin ln_RX4 lc_X4_isWithin) hd_X4_isWithin (k_X4_isWithin l _ _ (xW cI cO a s f R) d 1 10) rfl ⟨(Nat.le_of_ble_eq_true rfl), (Nat.le_of_ble_eq_true rfl)⟩ ⟨rfl, rfl⟩ hl.1 rfl (Nat.le_of_ble_eq_true rfl) ⟨Nat.zero_le _, Nat.zero_le _⟩ dX4_setLimits_14 (fun H locs (w : Wd D (kT cI cO) (va_A _ _) _ _ (xW cI cO a s f R) H locs) => ?_)
    refine lv_if_ne (tgt := 23) S.1 S.2.1 dX4_setLimits_17 (by decide) (fun (c_2 : ¬ (wIn d 1 10) = 0) => ?_) (fun (c_2 : (wIn d 1 10) = 0) => ?_)
    · refine lv_iload_n S.1 S.2.1 dX4_setLimits_23 rfl (lv_at hl 1 rfl) ?_
      refine lv_aload_n S.1 S.2.1 dX4_setLimits_24 rfl (lv_at hl 0 rfl) ?_
      refine xr_1 S w lk_RX4_10 dX4_setLimits_25 ?_
      refine xg_5 S w lk_RX4_93 dX4_setLimits_28 ?_
      refine lv_icmp_ne (tgt := 45) S.1 S.2.1 dX4_setLimits_31 (by decide) (fun (c_3 : ¬ g = (s 5)) => ?_) (fun (c_3 : g = (s 5)) => ?_)
      · refine lv_iconst (v := 1) S.1 S.2.1 dX4_setLimits_45 (by decide) ?_
        refine lv_goto (tgt := 50) S.1 S.2.1 dX4_setLimits_46 (by decide) ?_
        refine lv_istore_n (lv' := [(3, .int 1), (0, .ref (a 0)), (1, .int g), (2, .int d)]) S.1 S.2.1 dX4_setLimits_50 rfl hl (by decide) rfl (fun ls hl => ?_)
        refine lv_aload_n S.1 S.2.1 dX4_setLimits_51 rfl (lv_at hl 1 rfl) ?_
        refine xr_1 S w lk_RX4_10 dX4_setLimits_52 ?_
        refine lv_iload_n S.1 S.2.1 dX4_setLimits_55 rfl (lv_at hl 2 rfl) ?_
        refine xp_5 S w lk_RX4_93 dX4_setLimits_56 (fun H locs (w : Wd D (kT cI cO) (va_A _ _) _ _ (xW cI cO a (upd s 5 g) f R) H locs) => ?_)
        refine lv_aload_n S.1 S.2.1 dX4_setLimits_59 rfl (lv_at hl 1 rfl) ?_
        refine xr_1 S w lk_RX4_10 dX4_setLimits_60 ?_
        refine lv_iload_n S.1 S.2.1 dX4_setLimits_63 rfl (lv_at hl 3 rfl) ?_
        refine xp_6 S w lk_RX4_96 dX4_setLimits_64 (fun H locs (w : Wd D (kT cI cO) (va_A _ _) _ _ (xW cI cO a (upd (upd s 5 g) 6 d) f R) H locs) => ?_)
        refine lv_iload_n S.1 S.2.1 dX4_setLimits_67 rfl (lv_at hl 0 rfl) ?_
        refine x_Si (As := [.int 1]) (rest := []) S w (goodS lk_RX4_82 lt_X4_oneIf ln_RX4 lc_X4_oneIf) hd_X4_oneIf (k_X4_oneIf l _ _ (xW cI cO a (upd (upd s 5 g) 6 d) f R) 1) rfl ⟨(Nat.le_of_ble_eq_true rfl), (Nat.le_of_ble_eq_true rfl)⟩ ⟨rfl, rfl⟩ hl.1 rfl (Nat.le_of_ble_eq_true rfl) ⟨Nat.zero_le _, Nat.zero_le _⟩ dX4_setLimits_68 (fun H locs (w : Wd D (kT cI cO) (va_A _ _) _ _ (xW cI cO a (upd (upd s 5 g) 6 d) f R) H locs) => ?_)
        exact x_reti S w hr hlk dX4_setLimits_71 (show onI 1 = (o_X4_setLimits s f g d).1 from by simp only [o_X4_setLimits, if_neg c_1, if_neg c_2, if_neg c_3]) (show xW cI cO a (upd (upd s 5 g) 6 d) f R = xW cI cO a (o_X4_setLimits s f g d).2 f R from by simp only [o_X4_setLimits, if_neg c_1, if_neg c_2, if_neg c_3])
      · refine lv_iload_n S.1 S.2.1 dX4_setLimits_34 rfl (lv_at hl 2 rfl) ?_
        refine lv_aload_n S.1 S.2.1 dX4_setLimits_35 rfl (lv_at hl 0 rfl) ?_
        refine xr_1 S w lk_RX4_10 dX4_setLimits_36 ?_
        refine xg_6 S w lk_RX4_96 dX4_setLimits_39 ?_
        refine lv_icmp_eq (tgt := 49) S.1 S.2.1 dX4_setLimits_42 (by decide) (fun (c_4 : d = (s 6)) => ?_) (fun (c_4 : ¬ (d = (s 6))) => ?_)
        · refine lv_iconst (v := 0) S.1 S.2.1 dX4_setLimits_49 (by decide) ?_
          refine lv_istore_n (lv' := [(3, .int 0), (0, .ref (a 0)), (1, .int g), (2, .int d)]) S.1 S.2.1 dX4_setLimits_50 rfl hl (by decide) rfl (fun ls hl => ?_)
          refine lv_aload_n S.1 S.2.1 dX4_setLimits_51 rfl (lv_at hl 1 rfl) ?_
          refine xr_1 S w lk_RX4_10 dX4_setLimits_52 ?_
          refine lv_iload_n S.1 S.2.1 dX4_setLimits_55 rfl (lv_at hl 2 rfl) ?_
          refine xp_5 S w lk_RX4_93 dX4_setLimits_56 (fun H locs (w : Wd D (kT cI cO) (va_A _ _) _ _ (xW cI cO a (upd s 5 g) f R) H locs) => ?_)
          refine lv_aload_n S.1 S.2.1 dX4_setLimits_59 rfl (lv_at hl 1 rfl) ?_
          refine xr_1 S w lk_RX4_10 dX4_setLimits_60 ?_
          refine lv_iload_n S.1 S.2.1 dX4_setLimits_63 rfl (lv_at hl 3 rfl) ?_
          refine xp_6 S w lk_RX4_96 dX4_setLimits_64 (fun H locs (w : Wd D (kT cI cO) (va_A _ _) _ _ (xW cI cO a (upd (upd s 5 g) 6 d) f R) H locs) => ?_)
          refine lv_iload_n S.1 S.2.1 dX4_setLimits_67 rfl (lv_at hl 0 rfl) ?_
          refine x_Si (As := [.int 0]) (rest := []) S w (goodS lk_RX4_82 lt_X4_oneIf ln_RX4 lc_X4_oneIf) hd_X4_oneIf (k_X4_oneIf l _ _ (xW cI cO a (upd (upd s 5 g) 6 d) f R) 0) rfl ⟨(Nat.le_of_ble_eq_true rfl), (Nat.le_of_ble_eq_true rfl)⟩ ⟨rfl, rfl⟩ hl.1 rfl (Nat.le_of_ble_eq_true rfl) ⟨Nat.zero_le _, Nat.zero_le _⟩ dX4_setLimits_68 (fun H locs (w : Wd D (kT cI cO) (va_A _ _) _ _ (xW cI cO a (upd (upd s 5 g) 6 d) f R) H locs) => ?_)
          exact x_reti S w hr hlk dX4_setLimits_71 (show onI 0 = (o_X4_setLimits s f g d).1 from by simp only [o_X4_setLimits, if_neg c_1, if_neg c_2, if_pos c_3, if_pos c_4]) (show xW cI cO a (upd (upd s 5 g) 6 d) f R = xW cI cO a (o_X4_setLimits s f g d).2 f R from by simp only [o_X4_setLimits, if_neg c_1, if_neg c_2, if_pos c_3, if_pos c_4])
        · refine lv_iconst (v := 1) S.1 S.2.1 dX4_setLimits_45 (by decide) ?_
          refine lv_goto (tgt := 50) S.1 S.2.1 dX4_setLimits_46 (by decide) ?_
          refine lv_istore_n (lv' := [(3, .int 1), (0, .ref (a 0)), (1, .int g), (2, .int d)]) S.1 S.2.1 dX4_setLimits_50 rfl hl (by decide) rfl (fun ls hl => ?_)
          refine lv_aload_n S.1 S.2.1 dX4_setLimits_51 rfl (lv_at hl 1 rfl) ?_
          refine xr_1 S w lk_RX4_10 dX4_setLimits_52 ?_
          refine lv_iload_n S.1 S.2.1 dX4_setLimits_55 rfl (lv_at hl 2 rfl) ?_
          refine xp_5 S w lk_RX4_93 dX4_setLimits_56 (fun H locs (w : Wd D (kT cI cO) (va_A _ _) _ _ (xW cI cO a (upd s 5 g) f R) H locs) => ?_)
          refine lv_aload_n S.1 S.2.1 dX4_setLimits_59 rfl (lv_at hl 1 rfl) ?_
          refine xr_1 S w lk_RX4_10 dX4_setLimits_60 ?_
          refine lv_iload_n S.1 S.2.1 dX4_setLimits_63 rfl (lv_at hl 3 rfl) ?_
          refine xp_6 S w lk_RX4_96 dX4_setLimits_64 (fun H locs (w : Wd D (kT cI cO) (va_A _ _) _ _ (xW cI cO a (upd (upd s 5 g) 6 d) f R) H locs) => ?_)
          refine lv_iload_n S.1 S.2.1 dX4_setLimits_67 rfl (lv_at hl 0 rfl) ?_
          refine x_Si (As := [.int 1]) (rest := []) S w (goodS lk_RX4_82 lt_X4_oneIf ln_RX4 lc_X4_oneIf) hd_X4_oneIf (k_X4_oneIf l _ _ (xW cI cO a (upd (upd s 5 g) 6 d) f R) 1) rfl ⟨(Nat.le_of_ble_eq_true rfl), (Nat.le_of_ble_eq_true rfl)⟩ ⟨rfl, rfl⟩ hl.1 rfl (Nat.le_of_ble_eq_true rfl) ⟨Nat.zero_le _, Nat.zero_le _⟩ dX4_setLimits_68 (fun H locs (w : Wd D (kT cI cO) (va_A _ _) _ _ (xW cI cO a (upd (upd s 5 g) 6 d) f R) H locs) => ?_)
          exact x_reti S w hr hlk dX4_setLimits_71 (show onI 1 = (o_X4_setLimits s f g d).1 from by simp only [o_X4_setLimits, if_neg c_1, if_neg c_2, if_pos c_3, if_neg c_4]) (show xW cI cO a (upd (upd s 5 g) 6 d) f R = xW cI cO a (o_X4_setLimits s f g d).2 f R from by simp only [o_X4_setLimits, if_neg c_1, if_neg c_2, if_pos c_3, if_neg c_4])
    · refine x_ldc S lk_RX4_64 dX4_setLimits_20 ?_
      exact x_reti S w hr hlk dX4_setLimits_22 (show (-2000000001) = (o_X4_setLimits s f g d).1 from by simp only [o_X4_setLimits, if_neg c_1, if_pos c_2]) (show xW cI cO a s f R = xW cI cO a (o_X4_setLimits s f g d).2 f R from by simp only [o_X4_setLimits, if_neg c_1, if_pos c_2])
def o_X4_setTolerance (s : Nat → Int32) (f : Nat → Nat → Int32) (g : Int32) (d : Int32) : Int32 × (Nat → Int32) := if (wIn g 0 1000000) = 0 then ((-2000000001), s) else if (wIn d 1 5) = 0 then ((-2000000001), s) else if g = (s 8) then if d = (s 9) then (onI 0, upd (upd s 8 g) 9 d) else (onI 1, upd (upd s 8 g) 9 d) else (onI 1, upd (upd s 8 g) 9 d)
set_option maxHeartbeats 4000000 in
set_option maxRecDepth 100000 in
theorem k_X4_setTolerance (l : Launch) (D : va_G) (cI cO : ClassId) (a : Nat → Nat) (R : va_W) (s : Nat → Int32) (f : Nat → Nat → Int32) (g : Int32) (d : Int32) : Mi l yX4_setTolerance cX4_setTolerance 4 (some .int) { frames := 1, cells := 0, slots := 0, locals := 22 } D (kT cI cO) (xW cI cO a s f R) [.ref (a 0), .int g, .int d] (xW cI cO a (o_X4_setTolerance s f g d).2 f R) (o_X4_setTolerance s f g d).1 := by
  intro sz
  refine ent (by decide +kernel) (Nat.le_of_ble_eq_true rfl) ?_
  intro p e st m below meth c ls S hr hlk hnm w hsz hl
  have hl : lv_has ls 4 [(0, .ref (a 0)), (1, .int g), (2, .int d)] := hl
  refine lv_iload_n S.1 S.2.1 dX4_setTolerance_0 rfl (lv_at hl 1 rfl) ?_
  refine lv_iconst (v := 0) S.1 S.2.1 dX4_setTolerance_1 (by decide) ?_
  refine x_ldc S lk_RX4_92 dX4_setTolerance_2 ?_
  refine x_Si (As := [.int g, .int 0, .int 1000000]) (rest := []) S w (goodS lk_RX4_60 lt_X4_isWithin ln_RX4 lc_X4_isWithin) hd_X4_isWithin (k_X4_isWithin l _ _ (xW cI cO a s f R) g 0 1000000) rfl ⟨(Nat.le_of_ble_eq_true rfl), (Nat.le_of_ble_eq_true rfl)⟩ ⟨rfl, rfl⟩ hl.1 rfl (Nat.le_of_ble_eq_true rfl) ⟨Nat.zero_le _, Nat.zero_le _⟩ dX4_setTolerance_4 (fun H locs (w : Wd D (kT cI cO) (va_A _ _) _ _ (xW cI cO a s f R) H locs) => ?_)
  refine lv_if_eq (tgt := 19) S.1 S.2.1 dX4_setTolerance_7 (by decide) (fun (c_1 : (wIn g 0 1000000) = 0) => ?_) (fun (c_1 : ¬ ((wIn g 0 1000000) = 0)) => ?_)
  · refine x_ldc S lk_RX4_64 dX4_setTolerance_19 ?_
    exact x_reti S w hr hlk dX4_setTolerance_21 (show (-2000000001) = (o_X4_setTolerance s f g d).1 from by simp only [o_X4_setTolerance, if_pos c_1]) (show xW cI cO a s f R = xW cI cO a (o_X4_setTolerance s f g d).2 f R from by simp only [o_X4_setTolerance, if_pos c_1])
  · refine lv_iload_n S.1 S.2.1 dX4_setTolerance_10 rfl (lv_at hl 2 rfl) ?_
    refine lv_iconst (v := 1) S.1 S.2.1 dX4_setTolerance_11 (by decide) ?_
    refine lv_iconst (v := 5) S.1 S.2.1 dX4_setTolerance_12 (by decide) ?_
    refine x_Si (As := [.int d, .int 1, .int 5]) (rest := []) S w (goodS lk_RX4_60 lt_X4_isWithin ln_RX4 lc_X4_isWithin) hd_X4_isWithin (k_X4_isWithin l _ _ (xW cI cO a s f R) d 1 5) rfl ⟨(Nat.le_of_ble_eq_true rfl), (Nat.le_of_ble_eq_true rfl)⟩ ⟨rfl, rfl⟩ hl.1 rfl (Nat.le_of_ble_eq_true rfl) ⟨Nat.zero_le _, Nat.zero_le _⟩ dX4_setTolerance_13 (fun H locs (w : Wd D (kT cI cO) (va_A _ _) _ _ (xW cI cO a s f R) H locs) => ?_)
    refine lv_if_ne (tgt := 22) S.1 S.2.1 dX4_setTolerance_16 (by decide) (fun (c_2 : ¬ (wIn d 1 5) = 0) => ?_) (fun (c_2 : (wIn d 1 5) = 0) => ?_)
    · refine lv_iload_n S.1 S.2.1 dX4_setTolerance_22 rfl (lv_at hl 1 rfl) ?_
      refine lv_aload_n S.1 S.2.1 dX4_setTolerance_23 rfl (lv_at hl 0 rfl) ?_
      refine xr_1 S w lk_RX4_10 dX4_setTolerance_24 ?_
      refine xg_8 S w lk_RX4_102 dX4_setTolerance_27 ?_
      refine lv_icmp_ne (tgt := 44) S.1 S.2.1 dX4_setTolerance_30 (by decide) (fun (c_3 : ¬ g = (s 8)) => ?_) (fun (c_3 : g = (s 8)) => ?_)
      · refine lv_iconst (v := 1) S.1 S.2.1 dX4_setTolerance_44 (by decide) ?_
        refine lv_goto (tgt := 49) S.1 S.2.1 dX4_setTolerance_45 (by decide) ?_
        refine lv_istore_n (lv' := [(3, .int 1), (0, .ref (a 0)), (1, .int g), (2, .int d)]) S.1 S.2.1 dX4_setTolerance_49 rfl hl (by decide) rfl (fun ls hl => ?_)
        refine lv_aload_n S.1 S.2.1 dX4_setTolerance_50 rfl (lv_at hl 1 rfl) ?_
        refine xr_1 S w lk_RX4_10 dX4_setTolerance_51 ?_
        refine lv_iload_n S.1 S.2.1 dX4_setTolerance_54 rfl (lv_at hl 2 rfl) ?_
        refine xp_8 S w lk_RX4_102 dX4_setTolerance_55 (fun H locs (w : Wd D (kT cI cO) (va_A _ _) _ _ (xW cI cO a (upd s 8 g) f R) H locs) => ?_)
        refine lv_aload_n S.1 S.2.1 dX4_setTolerance_58 rfl (lv_at hl 1 rfl) ?_
        refine xr_1 S w lk_RX4_10 dX4_setTolerance_59 ?_
        refine lv_iload_n S.1 S.2.1 dX4_setTolerance_62 rfl (lv_at hl 3 rfl) ?_
        refine xp_9 S w lk_RX4_105 dX4_setTolerance_63 (fun H locs (w : Wd D (kT cI cO) (va_A _ _) _ _ (xW cI cO a (upd (upd s 8 g) 9 d) f R) H locs) => ?_)
        refine lv_iload_n S.1 S.2.1 dX4_setTolerance_66 rfl (lv_at hl 0 rfl) ?_
        refine x_Si (As := [.int 1]) (rest := []) S w (goodS lk_RX4_82 lt_X4_oneIf ln_RX4 lc_X4_oneIf) hd_X4_oneIf (k_X4_oneIf l _ _ (xW cI cO a (upd (upd s 8 g) 9 d) f R) 1) rfl ⟨(Nat.le_of_ble_eq_true rfl), (Nat.le_of_ble_eq_true rfl)⟩ ⟨rfl, rfl⟩ hl.1 rfl (Nat.le_of_ble_eq_true rfl) ⟨Nat.zero_le _, Nat.zero_le _⟩ dX4_setTolerance_67 (fun H locs (w : Wd D (kT cI cO) (va_A _ _) _ _ (xW cI cO a (upd (upd s 8 g) 9 d) f R) H locs) => ?_)
        exact x_reti S w hr hlk dX4_setTolerance_70 (show onI 1 = (o_X4_setTolerance s f g d).1 from by simp only [o_X4_setTolerance, if_neg c_1, if_neg c_2, if_neg c_3]) (show xW cI cO a (upd (upd s 8 g) 9 d) f R = xW cI cO a (o_X4_setTolerance s f g d).2 f R from by simp only [o_X4_setTolerance, if_neg c_1, if_neg c_2, if_neg c_3])
      · refine lv_iload_n S.1 S.2.1 dX4_setTolerance_33 rfl (lv_at hl 2 rfl) ?_
        refine lv_aload_n S.1 S.2.1 dX4_setTolerance_34 rfl (lv_at hl 0 rfl) ?_
        refine xr_1 S w lk_RX4_10 dX4_setTolerance_35 ?_
        refine xg_9 S w lk_RX4_105 dX4_setTolerance_38 ?_
        refine lv_icmp_eq (tgt := 48) S.1 S.2.1 dX4_setTolerance_41 (by decide) (fun (c_4 : d = (s 9)) => ?_) (fun (c_4 : ¬ (d = (s 9))) => ?_)
        · refine lv_iconst (v := 0) S.1 S.2.1 dX4_setTolerance_48 (by decide) ?_
          refine lv_istore_n (lv' := [(3, .int 0), (0, .ref (a 0)), (1, .int g), (2, .int d)]) S.1 S.2.1 dX4_setTolerance_49 rfl hl (by decide) rfl (fun ls hl => ?_)
          refine lv_aload_n S.1 S.2.1 dX4_setTolerance_50 rfl (lv_at hl 1 rfl) ?_
          refine xr_1 S w lk_RX4_10 dX4_setTolerance_51 ?_
          refine lv_iload_n S.1 S.2.1 dX4_setTolerance_54 rfl (lv_at hl 2 rfl) ?_
          refine xp_8 S w lk_RX4_102 dX4_setTolerance_55 (fun H locs (w : Wd D (kT cI cO) (va_A _ _) _ _ (xW cI cO a (upd s 8 g) f R) H locs) => ?_)
          refine lv_aload_n S.1 S.2.1 dX4_setTolerance_58 rfl (lv_at hl 1 rfl) ?_
          refine xr_1 S w lk_RX4_10 dX4_setTolerance_59 ?_
          refine lv_iload_n S.1 S.2.1 dX4_setTolerance_62 rfl (lv_at hl 3 rfl) ?_
          refine xp_9 S w lk_RX4_105 dX4_setTolerance_63 (fun H locs (w : Wd D (kT cI cO) (va_A _ _) _ _ (xW cI cO a (upd (upd s 8 g) 9 d) f R) H locs) => ?_)
          refine lv_iload_n S.1 S.2.1 dX4_setTolerance_66 rfl (lv_at hl 0 rfl) ?_
          refine x_Si (As := [.int 0]) (rest := []) S w (goodS lk_RX4_82 lt_X4_oneIf ln_RX4 lc_X4_oneIf) hd_X4_oneIf (k_X4_oneIf l _ _ (xW cI cO a (upd (upd s 8 g) 9 d) f R) 0) rfl ⟨(Nat.le_of_ble_eq_true rfl), (Nat.le_of_ble_eq_true rfl)⟩ ⟨rfl, rfl⟩ hl.1 rfl (Nat.le_of_ble_eq_true rfl) ⟨Nat.zero_le _, Nat.zero_le _⟩ dX4_setTolerance_67 (fun H locs (w : Wd D (kT cI cO) (va_A _ _) _ _ (xW cI cO a (upd (upd s 8 g) 9 d) f R) H locs) => ?_)
          exact x_reti S w hr hlk dX4_setTolerance_70 (show onI 0 = (o_X4_setTolerance s f g d).1 from by simp only [o_X4_setTolerance, if_neg c_1, if_neg c_2, if_pos c_3, if_pos c_4]) (show xW cI cO a (upd (upd s 8 g) 9 d) f R = xW cI cO a (o_X4_setTolerance s f g d).2 f R from by simp only [o_X4_setTolerance, if_neg c_1, if_neg c_2, if_pos c_3, if_pos c_4])
        · refine lv_iconst (v := 1) S.1 S.2.1 dX4_setTolerance_44 (by decide) ?_
          refine lv_goto (tgt := 49) S.1 S.2.1 dX4_setTolerance_45 (by decide) ?_
          refine lv_istore_n (lv' := [(3, .int 1), (0, .ref (a 0)), (1, .int g), (2, .int d)]) S.1 S.2.1 dX4_setTolerance_49 rfl hl (by decide) rfl (fun ls hl => ?_)
          refine lv_aload_n S.1 S.2.1 dX4_setTolerance_50 rfl (lv_at hl 1 rfl) ?_
          refine xr_1 S w lk_RX4_10 dX4_setTolerance_51 ?_
          refine lv_iload_n S.1 S.2.1 dX4_setTolerance_54 rfl (lv_at hl 2 rfl) ?_
          refine xp_8 S w lk_RX4_102 dX4_setTolerance_55 (fun H locs (w : Wd D (kT cI cO) (va_A _ _) _ _ (xW cI cO a (upd s 8 g) f R) H locs) => ?_)
          refine lv_aload_n S.1 S.2.1 dX4_setTolerance_58 rfl (lv_at hl 1 rfl) ?_
          refine xr_1 S w lk_RX4_10 dX4_setTolerance_59 ?_
          refine lv_iload_n S.1 S.2.1 dX4_setTolerance_62 rfl (lv_at hl 3 rfl) ?_
          refine xp_9 S w lk_RX4_105 dX4_setTolerance_63 (fun H locs (w : Wd D (kT cI cO) (va_A _ _) _ _ (xW cI cO a (upd (upd s 8 g) 9 d) f R) H locs) => ?_)
          refine lv_iload_n S.1 S.2.1 dX4_setTolerance_66 rfl (lv_at hl 0 rfl) ?_
          refine x_Si (As := [.int 1]) (rest := []) S w (goodS lk_RX4_82 lt_X4_oneIf ln_RX4 lc_X4_oneIf) hd_X4_oneIf (k_X4_oneIf l _ _ (xW cI cO a (upd (upd s 8 g) 9 d) f R) 1) rfl ⟨(Nat.le_of_ble_eq_true rfl), (Nat.le_of_ble_eq_true rfl)⟩ ⟨rfl, rfl⟩ hl.1 rfl (Nat.le_of_ble_eq_true rfl) ⟨Nat.zero_le _, Nat.zero_le _⟩ dX4_setTolerance_67 (fun H locs (w : Wd D (kT cI cO) (va_A _ _) _ _ (xW cI cO a (upd (upd s 8 g) 9 d) f R) H locs) => ?_)
          exact x_reti S w hr hlk dX4_setTolerance_70 (show onI 1 = (o_X4_setTolerance s f g d).1 from by simp only [o_X4_setTolerance, if_neg c_1, if_neg c_2, if_pos c_3, if_neg c_4]) (show xW cI cO a (upd (upd s 8 g) 9 d) f R = xW cI cO a (o_X4_setTolerance s f g d).2 f R from by simp only [o_X4_setTolerance, if_neg c_1, if_neg c_2, if_pos c_3, if_neg c_4])
    · refine x_ldc S lk_RX4_64 dX4_setTolerance_19 ?_
      exact x_reti S w hr hlk dX4_setTolerance_21 (show (-2000000001) = (o_X4_setTolerance s f g d).1 from by simp only [o_X4_setTolerance, if_neg c_1, if_pos c_2]) (show xW cI cO a s f R = xW cI cO a (o_X4_setTolerance s f g d).2 f R from by simp only [o_X4_setTolerance, if_neg c_1, if_pos c_2])
def o_X4_setGreatestShift (s : Nat → Int32) (f : Nat → Nat → Int32) (g : Int32) : Int32 × (Nat → Int32) := if (wIn g 0 5) = 0 then ((-2000000001), s) else (s 7, upd s 7 g)
set_option maxHeartbeats 4000000 in
set_option maxRecDepth 100000 in
theorem k_X4_setGreatestShift (l : Launch) (D : va_G) (cI cO : ClassId) (a : Nat → Nat) (R : va_W) (s : Nat → Int32) (f : Nat → Nat → Int32) (g : Int32) : Mi l yX4_setGreatestShift cX4_setGreatestShift 3 (some .int) { frames := 1, cells := 0, slots := 0, locals := 22 } D (kT cI cO) (xW cI cO a s f R) [.ref (a 0), .int g] (xW cI cO a (o_X4_setGreatestShift s f g).2 f R) (o_X4_setGreatestShift s f g).1 := by
  intro sz
  refine ent (by decide +kernel) (Nat.le_of_ble_eq_true rfl) ?_
  intro p e st m below meth c ls S hr hlk hnm w hsz hl
  have hl : lv_has ls 3 [(0, .ref (a 0)), (1, .int g)] := hl
  refine lv_iload_n S.1 S.2.1 dX4_setGreatestShift_0 rfl (lv_at hl 1 rfl) ?_
  refine lv_iconst (v := 0) S.1 S.2.1 dX4_setGreatestShift_1 (by decide) ?_
  refine lv_iconst (v := 5) S.1 S.2.1 dX4_setGreatestShift_2 (by decide) ?_
  refine x_Si (As := [.int g, .int 0, .int 5]) (rest := []) S w (goodS lk_RX4_60 lt_X4_isWithin ln_RX4 lc_X4_isWithin) hd_X4_isWithin (k_X4_isWithin l _ _ (xW cI cO a s f R) g 0 5) rfl ⟨(Nat.le_of_ble_eq_true rfl), (Nat.le_of_ble_eq_true rfl)⟩ ⟨rfl, rfl⟩ hl.1 rfl (Nat.le_of_ble_eq_true rfl) ⟨Nat.zero_le _, Nat.zero_le _⟩ dX4_setGreatestShift_3 (fun H locs (w : Wd D (kT cI cO) (va_A _ _) _ _ (xW cI cO a s f R) H locs) => ?_)
  refine lv_if_ne (tgt := 12) S.1 S.2.1 dX4_setGreatestShift_6 (by decide) (fun (c_1 : ¬ (wIn g 0 5) = 0) => ?_) (fun (c_1 : (wIn g 0 5) = 0) => ?_)
  · refine lv_aload_n S.1 S.2.1 dX4_setGreatestShift_12 rfl (lv_at hl 0 rfl) ?_
    refine xr_1 S w lk_RX4_10 dX4_setGreatestShift_13 ?_
    refine xg_7 S w lk_RX4_99 dX4_setGreatestShift_16 ?_
    refine lv_istore_n (lv' := [(2, .int (s 7)), (0, .ref (a 0)), (1, .int g)]) S.1 S.2.1 dX4_setGreatestShift_19 rfl hl (by decide) rfl (fun ls hl => ?_)
    refine lv_aload_n S.1 S.2.1 dX4_setGreatestShift_20 rfl (lv_at hl 1 rfl) ?_
    refine xr_1 S w lk_RX4_10 dX4_setGreatestShift_21 ?_
    refine lv_iload_n S.1 S.2.1 dX4_setGreatestShift_24 rfl (lv_at hl 2 rfl) ?_
    refine xp_7 S w lk_RX4_99 dX4_setGreatestShift_25 (fun H locs (w : Wd D (kT cI cO) (va_A _ _) _ _ (xW cI cO a (upd s 7 g) f R) H locs) => ?_)
    refine lv_iload_n S.1 S.2.1 dX4_setGreatestShift_28 rfl (lv_at hl 0 rfl) ?_
    exact x_reti S w hr hlk dX4_setGreatestShift_29 (show s 7 = (o_X4_setGreatestShift s f g).1 from by simp only [o_X4_setGreatestShift, if_neg c_1]) (show xW cI cO a (upd s 7 g) f R = xW cI cO a (o_X4_setGreatestShift s f g).2 f R from by simp only [o_X4_setGreatestShift, if_neg c_1])
  · refine x_ldc S lk_RX4_64 dX4_setGreatestShift_9 ?_
    exact x_reti S w hr hlk dX4_setGreatestShift_11 (show (-2000000001) = (o_X4_setGreatestShift s f g).1 from by simp only [o_X4_setGreatestShift, if_pos c_1]) (show xW cI cO a s f R = xW cI cO a (o_X4_setGreatestShift s f g).2 f R from by simp only [o_X4_setGreatestShift, if_pos c_1])
def o_X4_setGuard (s : Nat → Int32) (f : Nat → Nat → Int32) (g : Int32) : Int32 × (Nat → Int32) := if g = (s 10) then (onI 0, upd s 10 g) else (onI 1, upd s 10 g)
set_option maxHeartbeats 4000000 in
set_option maxRecDepth 100000 in
theorem k_X4_setGuard (l : Launch) (D : va_G) (cI cO : ClassId) (a : Nat → Nat) (R : va_W) (s : Nat → Int32) (f : Nat → Nat → Int32) (g : Int32) (hg : g = 0 ∨ g = 1) : Mi l yX4_setGuard cX4_setGuard 3 (some .int) { frames := 1, cells := 0, slots := 0, locals := 20 } D (kT cI cO) (xW cI cO a s f R) [.ref (a 0), .int g] (xW cI cO a (o_X4_setGuard s f g).2 f R) (o_X4_setGuard s f g).1 := by
  intro sz
  refine ent (by decide +kernel) (Nat.le_of_ble_eq_true rfl) ?_
  intro p e st m below meth c ls S hr hlk hnm w hsz hl
  have hl : lv_has ls 3 [(0, .ref (a 0)), (1, .int g)] := hl
  refine lv_iload_n S.1 S.2.1 dX4_setGuard_0 rfl (lv_at hl 1 rfl) ?_
  refine lv_aload_n S.1 S.2.1 dX4_setGuard_1 rfl (lv_at hl 0 rfl) ?_
  refine xr_1 S w lk_RX4_10 dX4_setGuard_2 ?_
  refine xg_10 S w lk_RX4_108 dX4_setGuard_5 ?_
  refine lv_icmp_eq (tgt := 15) S.1 S.2.1 dX4_setGuard_8 (by decide) (fun (c_1 : g = (s 10)) => ?_) (fun (c_1 : ¬ (g = (s 10))) => ?_)
  · refine lv_iconst (v := 0) S.1 S.2.1 dX4_setGuard_15 (by decide) ?_
    refine lv_istore_n (lv' := [(2, .int 0), (0, .ref (a 0)), (1, .int g)]) S.1 S.2.1 dX4_setGuard_16 rfl hl (by decide) rfl (fun ls hl => ?_)
    refine lv_aload_n S.1 S.2.1 dX4_setGuard_17 rfl (lv_at hl 1 rfl) ?_
    refine xr_1 S w lk_RX4_10 dX4_setGuard_18 ?_
    refine lv_iload_n S.1 S.2.1 dX4_setGuard_21 rfl (lv_at hl 2 rfl) ?_
    refine xp_10 S w (hg) lk_RX4_108 dX4_setGuard_22 (fun H locs (w : Wd D (kT cI cO) (va_A _ _) _ _ (xW cI cO a (upd s 10 g) f R) H locs) => ?_)
    refine lv_iload_n S.1 S.2.1 dX4_setGuard_25 rfl (lv_at hl 0 rfl) ?_
    refine x_Si (As := [.int 0]) (rest := []) S w (goodS lk_RX4_82 lt_X4_oneIf ln_RX4 lc_X4_oneIf) hd_X4_oneIf (k_X4_oneIf l _ _ (xW cI cO a (upd s 10 g) f R) 0) rfl ⟨(Nat.le_of_ble_eq_true rfl), (Nat.le_of_ble_eq_true rfl)⟩ ⟨rfl, rfl⟩ hl.1 rfl (Nat.le_of_ble_eq_true rfl) ⟨Nat.zero_le _, Nat.zero_le _⟩ dX4_setGuard_26 (fun H locs (w : Wd D (kT cI cO) (va_A _ _) _ _ (xW cI cO a (upd s 10 g) f R) H locs) => ?_)
    exact x_reti S w hr hlk dX4_setGuard_29 (show onI 0 = (o_X4_setGuard s f g).1 from by simp only [o_X4_setGuard, if_pos c_1]) (show xW cI cO a (upd s 10 g) f R = xW cI cO a (o_X4_setGuard s f g).2 f R from by simp only [o_X4_setGuard, if_pos c_1])
  · refine lv_iconst (v := 1) S.1 S.2.1 dX4_setGuard_11 (by decide) ?_
    refine lv_goto (tgt := 16) S.1 S.2.1 dX4_setGuard_12 (by decide) ?_
    refine lv_istore_n (lv' := [(2, .int 1), (0, .ref (a 0)), (1, .int g)]) S.1 S.2.1 dX4_setGuard_16 rfl hl (by decide) rfl (fun ls hl => ?_)
    refine lv_aload_n S.1 S.2.1 dX4_setGuard_17 rfl (lv_at hl 1 rfl) ?_
    refine xr_1 S w lk_RX4_10 dX4_setGuard_18 ?_
    refine lv_iload_n S.1 S.2.1 dX4_setGuard_21 rfl (lv_at hl 2 rfl) ?_
    refine xp_10 S w (hg) lk_RX4_108 dX4_setGuard_22 (fun H locs (w : Wd D (kT cI cO) (va_A _ _) _ _ (xW cI cO a (upd s 10 g) f R) H locs) => ?_)
    refine lv_iload_n S.1 S.2.1 dX4_setGuard_25 rfl (lv_at hl 0 rfl) ?_
    refine x_Si (As := [.int 1]) (rest := []) S w (goodS lk_RX4_82 lt_X4_oneIf ln_RX4 lc_X4_oneIf) hd_X4_oneIf (k_X4_oneIf l _ _ (xW cI cO a (upd s 10 g) f R) 1) rfl ⟨(Nat.le_of_ble_eq_true rfl), (Nat.le_of_ble_eq_true rfl)⟩ ⟨rfl, rfl⟩ hl.1 rfl (Nat.le_of_ble_eq_true rfl) ⟨Nat.zero_le _, Nat.zero_le _⟩ dX4_setGuard_26 (fun H locs (w : Wd D (kT cI cO) (va_A _ _) _ _ (xW cI cO a (upd s 10 g) f R) H locs) => ?_)
    exact x_reti S w hr hlk dX4_setGuard_29 (show onI 1 = (o_X4_setGuard s f g).1 from by simp only [o_X4_setGuard, if_neg c_1]) (show xW cI cO a (upd s 10 g) f R = xW cI cO a (o_X4_setGuard s f g).2 f R from by simp only [o_X4_setGuard, if_neg c_1])
def o_X4_setting (s : Nat → Int32) (f : Nat → Nat → Int32) (q : Int32) : Int32 := if q = 0 then s 0 else if q = 1 then s 1 else if q = 2 then s 2 else if q = 3 then s 3 else if q = 4 then s 4 else if q = 5 then s 5 else if q = 6 then s 6 else if q = 7 then s 7 else if q = 8 then s 8 else if q = 9 then s 9 else if q = 10 then onI (s 10) else (-2000000001)
set_option maxHeartbeats 4000000 in
set_option maxRecDepth 100000 in
theorem k_X4_setting (l : Launch) (D : va_G) (cI cO : ClassId) (a : Nat → Nat) (R : va_W) (s : Nat → Int32) (f : Nat → Nat → Int32) (q : Int32) : Mi l yX4_setting cX4_setting 2 (some .int) { frames := 1, cells := 0, slots := 0, locals := 20 } D (kT cI cO) (xW cI cO a s f R) [.ref (a 0), .int q] (xW cI cO a s f R) (o_X4_setting s f q) := by
  intro sz
  refine ent (by decide +kernel) (Nat.le_of_ble_eq_true rfl) ?_
  intro p e st m below meth c ls S hr hlk hnm w hsz hl
  have hl : lv_has ls 2 [(0, .ref (a 0)), (1, .int q)] := hl
  refine lv_iload_n S.1 S.2.1 dX4_setting_0 rfl (lv_at hl 1 rfl) ?_
  by_cases c_1 : q = 0
  · refine lv_tableIn (off := 59) (tgt := 60) S.1 S.2.1 dX4_setting_1 (by rw [c_1]; decide) (by rw [c_1]; decide) (by rw [c_1]; decide) (by decide) ?_
    refine lv_aload_n S.1 S.2.1 dX4_setting_60 rfl (lv_at hl 0 rfl) ?_
    refine xr_1 S w lk_RX4_10 dX4_setting_61 ?_
    refine xg_0 S w lk_RX4_65 dX4_setting_64 ?_
    exact x_reti S w hr hlk dX4_setting_67 (show s 0 = o_X4_setting s f q from by simp only [o_X4_setting, if_pos c_1]) (show xW cI cO a s f R = xW cI cO a s f R from rfl)
  by_cases c_2 : q = 1
  · refine lv_tableIn (off := 67) (tgt := 68) S.1 S.2.1 dX4_setting_1 (by rw [c_2]; decide) (by rw [c_2]; decide) (by rw [c_2]; decide) (by decide) ?_
    refine lv_aload_n S.1 S.2.1 dX4_setting_68 rfl (lv_at hl 0 rfl) ?_
    refine xr_1 S w lk_RX4_10 dX4_setting_69 ?_
    refine xg_1 S w lk_RX4_76 dX4_setting_72 ?_
    exact x_reti S w hr hlk dX4_setting_75 (show s 1 = o_X4_setting s f q from by simp only [o_X4_setting, if_neg c_1, if_pos c_2]) (show xW cI cO a s f R = xW cI cO a s f R from rfl)
  by_cases c_3 : q = 2
  · refine lv_tableIn (off := 75) (tgt := 76) S.1 S.2.1 dX4_setting_1 (by rw [c_3]; decide) (by rw [c_3]; decide) (by rw [c_3]; decide) (by decide) ?_
    refine lv_aload_n S.1 S.2.1 dX4_setting_76 rfl (lv_at hl 0 rfl) ?_
    refine xr_1 S w lk_RX4_10 dX4_setting_77 ?_
    refine xg_2 S w lk_RX4_79 dX4_setting_80 ?_
    exact x_reti S w hr hlk dX4_setting_83 (show s 2 = o_X4_setting s f q from by simp only [o_X4_setting, if_neg c_1, if_neg c_2, if_pos c_3]) (show xW cI cO a s f R = xW cI cO a s f R from rfl)
  by_cases c_4 : q = 3
  · refine lv_tableIn (off := 83) (tgt := 84) S.1 S.2.1 dX4_setting_1 (by rw [c_4]; decide) (by rw [c_4]; decide) (by rw [c_4]; decide) (by decide) ?_
    refine lv_aload_n S.1 S.2.1 dX4_setting_84 rfl (lv_at hl 0 rfl) ?_
    refine xr_1 S w lk_RX4_10 dX4_setting_85 ?_
    refine xg_3 S w lk_RX4_86 dX4_setting_88 ?_
    exact x_reti S w hr hlk dX4_setting_91 (show s 3 = o_X4_setting s f q from by simp only [o_X4_setting, if_neg c_1, if_neg c_2, if_neg c_3, if_pos c_4]) (show xW cI cO a s f R = xW cI cO a s f R from rfl)
  by_cases c_5 : q = 4
  · refine lv_tableIn (off := 91) (tgt := 92) S.1 S.2.1 dX4_setting_1 (by rw [c_5]; decide) (by rw [c_5]; decide) (by rw [c_5]; decide) (by decide) ?_
    refine lv_aload_n S.1 S.2.1 dX4_setting_92 rfl (lv_at hl 0 rfl) ?_
    refine xr_1 S w lk_RX4_10 dX4_setting_93 ?_
    refine xg_4 S w lk_RX4_89 dX4_setting_96 ?_
    exact x_reti S w hr hlk dX4_setting_99 (show s 4 = o_X4_setting s f q from by simp only [o_X4_setting, if_neg c_1, if_neg c_2, if_neg c_3, if_neg c_4, if_pos c_5]) (show xW cI cO a s f R = xW cI cO a s f R from rfl)
  by_cases c_6 : q = 5
  · refine lv_tableIn (off := 99) (tgt := 100) S.1 S.2.1 dX4_setting_1 (by rw [c_6]; decide) (by rw [c_6]; decide) (by rw [c_6]; decide) (by decide) ?_
    refine lv_aload_n S.1 S.2.1 dX4_setting_100 rfl (lv_at hl 0 rfl) ?_
    refine xr_1 S w lk_RX4_10 dX4_setting_101 ?_
    refine xg_5 S w lk_RX4_93 dX4_setting_104 ?_
    exact x_reti S w hr hlk dX4_setting_107 (show s 5 = o_X4_setting s f q from by simp only [o_X4_setting, if_neg c_1, if_neg c_2, if_neg c_3, if_neg c_4, if_neg c_5, if_pos c_6]) (show xW cI cO a s f R = xW cI cO a s f R from rfl)
  by_cases c_7 : q = 6
  · refine lv_tableIn (off := 107) (tgt := 108) S.1 S.2.1 dX4_setting_1 (by rw [c_7]; decide) (by rw [c_7]; decide) (by rw [c_7]; decide) (by decide) ?_
    refine lv_aload_n S.1 S.2.1 dX4_setting_108 rfl (lv_at hl 0 rfl) ?_
    refine xr_1 S w lk_RX4_10 dX4_setting_109 ?_
    refine xg_6 S w lk_RX4_96 dX4_setting_112 ?_
    exact x_reti S w hr hlk dX4_setting_115 (show s 6 = o_X4_setting s f q from by simp only [o_X4_setting, if_neg c_1, if_neg c_2, if_neg c_3, if_neg c_4, if_neg c_5, if_neg c_6, if_pos c_7]) (show xW cI cO a s f R = xW cI cO a s f R from rfl)
  by_cases c_8 : q = 7
  · refine lv_tableIn (off := 115) (tgt := 116) S.1 S.2.1 dX4_setting_1 (by rw [c_8]; decide) (by rw [c_8]; decide) (by rw [c_8]; decide) (by decide) ?_
    refine lv_aload_n S.1 S.2.1 dX4_setting_116 rfl (lv_at hl 0 rfl) ?_
    refine xr_1 S w lk_RX4_10 dX4_setting_117 ?_
    refine xg_7 S w lk_RX4_99 dX4_setting_120 ?_
    exact x_reti S w hr hlk dX4_setting_123 (show s 7 = o_X4_setting s f q from by simp only [o_X4_setting, if_neg c_1, if_neg c_2, if_neg c_3, if_neg c_4, if_neg c_5, if_neg c_6, if_neg c_7, if_pos c_8]) (show xW cI cO a s f R = xW cI cO a s f R from rfl)
  by_cases c_9 : q = 8
  · refine lv_tableIn (off := 123) (tgt := 124) S.1 S.2.1 dX4_setting_1 (by rw [c_9]; decide) (by rw [c_9]; decide) (by rw [c_9]; decide) (by decide) ?_
    refine lv_aload_n S.1 S.2.1 dX4_setting_124 rfl (lv_at hl 0 rfl) ?_
    refine xr_1 S w lk_RX4_10 dX4_setting_125 ?_
    refine xg_8 S w lk_RX4_102 dX4_setting_128 ?_
    exact x_reti S w hr hlk dX4_setting_131 (show s 8 = o_X4_setting s f q from by simp only [o_X4_setting, if_neg c_1, if_neg c_2, if_neg c_3, if_neg c_4, if_neg c_5, if_neg c_6, if_neg c_7, if_neg c_8, if_pos c_9]) (show xW cI cO a s f R = xW cI cO a s f R from rfl)
  by_cases c_10 : q = 9
  · refine lv_tableIn (off := 131) (tgt := 132) S.1 S.2.1 dX4_setting_1 (by rw [c_10]; decide) (by rw [c_10]; decide) (by rw [c_10]; decide) (by decide) ?_
    refine lv_aload_n S.1 S.2.1 dX4_setting_132 rfl (lv_at hl 0 rfl) ?_
    refine xr_1 S w lk_RX4_10 dX4_setting_133 ?_
    refine xg_9 S w lk_RX4_105 dX4_setting_136 ?_
    exact x_reti S w hr hlk dX4_setting_139 (show s 9 = o_X4_setting s f q from by simp only [o_X4_setting, if_neg c_1, if_neg c_2, if_neg c_3, if_neg c_4, if_neg c_5, if_neg c_6, if_neg c_7, if_neg c_8, if_neg c_9, if_pos c_10]) (show xW cI cO a s f R = xW cI cO a s f R from rfl)
  by_cases c_11 : q = 10
  · refine lv_tableIn (off := 139) (tgt := 140) S.1 S.2.1 dX4_setting_1 (by rw [c_11]; decide) (by rw [c_11]; decide) (by rw [c_11]; decide) (by decide) ?_
    refine lv_aload_n S.1 S.2.1 dX4_setting_140 rfl (lv_at hl 0 rfl) ?_
    refine xr_1 S w lk_RX4_10 dX4_setting_141 ?_
    refine xg_10 S w lk_RX4_108 dX4_setting_144 ?_
    refine x_Si (As := [.int (s 10)]) (rest := []) S w (goodS lk_RX4_82 lt_X4_oneIf ln_RX4 lc_X4_oneIf) hd_X4_oneIf (k_X4_oneIf l _ _ (xW cI cO a s f R) (s 10)) rfl ⟨(Nat.le_of_ble_eq_true rfl), (Nat.le_of_ble_eq_true rfl)⟩ ⟨rfl, rfl⟩ hl.1 rfl (Nat.le_of_ble_eq_true rfl) ⟨Nat.zero_le _, Nat.zero_le _⟩ dX4_setting_147 (fun H locs (w : Wd D (kT cI cO) (va_A _ _) _ _ (xW cI cO a s f R) H locs) => ?_)
    exact x_reti S w hr hlk dX4_setting_150 (show onI (s 10) = o_X4_setting s f q from by simp only [o_X4_setting, if_neg c_1, if_neg c_2, if_neg c_3, if_neg c_4, if_neg c_5, if_neg c_6, if_neg c_7, if_neg c_8, if_neg c_9, if_neg c_10, if_pos c_11]) (show xW cI cO a s f R = xW cI cO a s f R from rfl)
  refine lv_tableOut (tgt := 151) S.1 S.2.1 dX4_setting_1 (x_tout11 c_1 c_2 c_3 c_4 c_5 c_6 c_7 c_8 c_9 c_10 c_11) (by decide) ?_
  refine x_ldc S lk_RX4_64 dX4_setting_151 ?_
  exact x_reti S w hr hlk dX4_setting_153 (show (-2000000001) = o_X4_setting s f q from by simp only [o_X4_setting, if_neg c_1, if_neg c_2, if_neg c_3, if_neg c_4, if_neg c_5, if_neg c_6, if_neg c_7, if_neg c_8, if_neg c_9, if_neg c_10, if_neg c_11]) (show xW cI cO a s f R = xW cI cO a s f R from rfl)
def o_X4_beginTrial (s : Nat → Int32) (f : Nat → Nat → Int32) : (Nat → Int32) := upd (upd (upd s 11 1) 12 0) 13 ((s 13) + 1)
set_option maxHeartbeats 4000000 in
set_option maxRecDepth 100000 in
theorem k_X4_beginTrial (l : Launch) (D : va_G) (cI cO : ClassId) (a : Nat → Nat) (R : va_W) (s : Nat → Int32) (f : Nat → Nat → Int32) : Mv l yX4_beginTrial cX4_beginTrial 1 none { frames := 0, cells := 0, slots := 0, locals := 0 } D (kT cI cO) (xW cI cO a s f R) [.ref (a 0)] (xW cI cO a (o_X4_beginTrial s f) f R) := by
  intro sz
  refine ent (by decide +kernel) (Nat.le_of_ble_eq_true rfl) ?_
  intro p e st m below meth c ls S hr hlk hnm w hsz hl
  have hl : lv_has ls 1 [(0, .ref (a 0))] := hl
  refine lv_aload_n S.1 S.2.1 dX4_beginTrial_0 rfl (lv_at hl 0 rfl) ?_
  refine lv_iconst (v := 1) S.1 S.2.1 dX4_beginTrial_1 (by decide) ?_
  refine xp_11 S w (Or.inr rfl) lk_RX4_112 dX4_beginTrial_2 (fun H locs (w : Wd D (kT cI cO) (va_A _ _) _ _ (xW cI cO a (upd s 11 1) f R) H locs) => ?_)
  refine lv_aload_n S.1 S.2.1 dX4_beginTrial_5 rfl (lv_at hl 0 rfl) ?_
  refine lv_iconst (v := 0) S.1 S.2.1 dX4_beginTrial_6 (by decide) ?_
  refine xp_12 S w lk_RX4_126 dX4_beginTrial_7 (fun H locs (w : Wd D (kT cI cO) (va_A _ _) _ _ (xW cI cO a (upd (upd s 11 1) 12 0) f R) H locs) => ?_)
  refine lv_aload_n S.1 S.2.1 dX4_beginTrial_10 rfl (lv_at hl 0 rfl) ?_
  refine lv_dup S.1 S.2.1 dX4_beginTrial_11 rfl ?_
  refine xg_13 S w lk_RX4_119 dX4_beginTrial_12 ?_
  refine x_eqi (x := (upd (upd s 11 1) 12 0) 13) (y := s 13) rfl ?_
  refine lv_iconst (v := 1) S.1 S.2.1 dX4_beginTrial_15 (by decide) ?_
  refine lv_iadd S.1 S.2.1 dX4_beginTrial_16 ?_
  refine xp_13 S w lk_RX4_119 dX4_beginTrial_17 (fun H locs (w : Wd D (kT cI cO) (va_A _ _) _ _ (xW cI cO a (upd (upd (upd s 11 1) 12 0) 13 ((s 13) + 1)) f R) H locs) => ?_)
  exact x_retv S w hr hlk dX4_beginTrial_20 (show xW cI cO a (upd (upd (upd s 11 1) 12 0) 13 ((s 13) + 1)) f R = xW cI cO a (o_X4_beginTrial s f) f R from by simp only [o_X4_beginTrial])
def o_X4_startTrial (s : Nat → Int32) (f : Nat → Nat → Int32) : Int32 × (Nat → Int32) := if (s 11) = 0 then (((s 13) + 1) - 1, upd (upd (upd s 11 1) 12 0) 13 ((s 13) + 1)) else ((-2000000002), s)
set_option maxHeartbeats 4000000 in
set_option maxRecDepth 100000 in
theorem k_X4_startTrial (l : Launch) (D : va_G) (cI cO : ClassId) (a : Nat → Nat) (R : va_W) (s : Nat → Int32) (f : Nat → Nat → Int32) : Mi l yX4_startTrial cX4_startTrial 1 (some .int) { frames := 1, cells := 0, slots := 0, locals := 20 } D (kT cI cO) (xW cI cO a s f R) [.ref (a 0)] (xW cI cO a (o_X4_startTrial s f).2 f R) (o_X4_startTrial s f).1 := by
  intro sz
  refine ent (by decide +kernel) (Nat.le_of_ble_eq_true rfl) ?_
  intro p e st m below meth c ls S hr hlk hnm w hsz hl
  have hl : lv_has ls 1 [(0, .ref (a 0))] := hl
  refine lv_aload_n S.1 S.2.1 dX4_startTrial_0 rfl (lv_at hl 0 rfl) ?_
  refine xg_11 S w lk_RX4_112 dX4_startTrial_1 ?_
  refine lv_if_eq (tgt := 10) S.1 S.2.1 dX4_startTrial_4 (by decide) (fun (c_1 : (s 11) = 0) => ?_) (fun (c_1 : ¬ ((s 11) = 0)) => ?_)
  · refine lv_aload_n S.1 S.2.1 dX4_startTrial_10 rfl (lv_at hl 0 rfl) ?_
    refine x_Vv (As := []) (rest := []) S w (goodV lk_RX4_116 li_X4_beginTrial ls_X4_beginTrial ln_RX4 lc_X4_beginTrial) hV_X4_beginTrial (k_X4_beginTrial l D cI cO a R s f) rfl 0 4 rfl rfl xc_0 ⟨(Nat.le_of_ble_eq_true rfl), (Nat.le_of_ble_eq_true rfl)⟩ ⟨rfl, rfl⟩ hl.1 rfl (Nat.le_of_ble_eq_true rfl) ⟨Nat.zero_le _, Nat.zero_le _⟩ dX4_startTrial_11 (fun H locs (w : Wd D (kT cI cO) (va_A _ _) _ _ (xW cI cO a (upd (upd (upd s 11 1) 12 0) 13 ((s 13) + 1)) f R) H locs) => ?_)
    refine lv_aload_n S.1 S.2.1 dX4_startTrial_14 rfl (lv_at hl 0 rfl) ?_
    refine xg_13 S w lk_RX4_119 dX4_startTrial_15 ?_
    refine x_eqi (x := (upd (upd (upd s 11 1) 12 0) 13 ((s 13) + 1)) 13) (y := (s 13) + 1) rfl ?_
    refine lv_iconst (v := 1) S.1 S.2.1 dX4_startTrial_18 (by decide) ?_
    refine lv_isub S.1 S.2.1 dX4_startTrial_19 ?_
    exact x_reti S w hr hlk dX4_startTrial_20 (show ((s 13) + 1) - 1 = (o_X4_startTrial s f).1 from by simp only [o_X4_startTrial, if_pos c_1]) (show xW cI cO a (upd (upd (upd s 11 1) 12 0) 13 ((s 13) + 1)) f R = xW cI cO a (o_X4_startTrial s f).2 f R from by simp only [o_X4_startTrial, if_pos c_1])
  · refine x_ldc S lk_RX4_115 dX4_startTrial_7 ?_
    exact x_reti S w hr hlk dX4_startTrial_9 (show (-2000000002) = (o_X4_startTrial s f).1 from by simp only [o_X4_startTrial, if_neg c_1]) (show xW cI cO a s f R = xW cI cO a (o_X4_startTrial s f).2 f R from by simp only [o_X4_startTrial, if_neg c_1])
def o_X4_position (s : Nat → Int32) (f : Nat → Nat → Int32) : Int32 := if (s 11) = 0 then (-2000000003) else s 12
set_option maxHeartbeats 4000000 in
set_option maxRecDepth 100000 in
theorem k_X4_position (l : Launch) (D : va_G) (cI cO : ClassId) (a : Nat → Nat) (R : va_W) (s : Nat → Int32) (f : Nat → Nat → Int32) : Mi l yX4_position cX4_position 1 (some .int) { frames := 0, cells := 0, slots := 0, locals := 0 } D (kT cI cO) (xW cI cO a s f R) [.ref (a 0)] (xW cI cO a s f R) (o_X4_position s f) := by
  intro sz
  refine ent (by decide +kernel) (Nat.le_of_ble_eq_true rfl) ?_
  intro p e st m below meth c ls S hr hlk hnm w hsz hl
  have hl : lv_has ls 1 [(0, .ref (a 0))] := hl
  refine lv_aload_n S.1 S.2.1 dX4_position_0 rfl (lv_at hl 0 rfl) ?_
  refine xg_11 S w lk_RX4_112 dX4_position_1 ?_
  refine lv_if_eq (tgt := 14) S.1 S.2.1 dX4_position_4 (by decide) (fun (c_1 : (s 11) = 0) => ?_) (fun (c_1 : ¬ ((s 11) = 0)) => ?_)
  · refine x_ldc S lk_RX4_122 dX4_position_14 ?_
    exact x_reti S w hr hlk dX4_position_16 (show (-2000000003) = o_X4_position s f from by simp only [o_X4_position, if_pos c_1]) (show xW cI cO a s f R = xW cI cO a s f R from rfl)
  · refine lv_aload_n S.1 S.2.1 dX4_position_7 rfl (lv_at hl 0 rfl) ?_
    refine xg_12 S w lk_RX4_126 dX4_position_8 ?_
    refine lv_goto (tgt := 16) S.1 S.2.1 dX4_position_11 (by decide) ?_
    exact x_reti S w hr hlk dX4_position_16 (show s 12 = o_X4_position s f from by simp only [o_X4_position, if_neg c_1]) (show xW cI cO a s f R = xW cI cO a s f R from rfl)
def o_X4_input (s : Nat → Int32) (f : Nat → Nat → Int32) (N : Nat) (k : Int32) : Int32 := if (wIn k 0 ((s 0) - 1)) = 0 then (-2000000001) else (f 1) (Int32.toNatClampNeg k)
set_option maxHeartbeats 4000000 in
set_option maxRecDepth 100000 in
theorem k_X4_input (l : Launch) (D : va_G) (cI cO : ClassId) (a : Nat → Nat) (R : va_W) (s : Nat → Int32) (f : Nat → Nat → Int32) (N : Nat) (k : Int32) (hN : s 0 = nI N) (h4 : 4 ≤ N) (h48 : N ≤ 48) : Mi l yX4_input cX4_input 2 (some .int) { frames := 2, cells := 0, slots := 0, locals := 43 } D (kT cI cO) (xW cI cO a s f R) [.ref (a 0), .int k] (xW cI cO a s f R) (o_X4_input s f N k) := by
  intro sz
  refine ent (by decide +kernel) (Nat.le_of_ble_eq_true rfl) ?_
  intro p e st m below meth c ls S hr hlk hnm w hsz hl
  have hl : lv_has ls 2 [(0, .ref (a 0)), (1, .int k)] := hl
  refine lv_aload_n S.1 S.2.1 dX4_input_0 rfl (lv_at hl 0 rfl) ?_
  refine lv_iload_n S.1 S.2.1 dX4_input_1 rfl (lv_at hl 1 rfl) ?_
  refine x_Vi (As := [.int k]) (rest := []) S w (goodV lk_RX4_69 li_X4_isSample ls_X4_isSample ln_RX4 lc_X4_isSample) hV_X4_isSample (k_X4_isSample l D cI cO a R s f k) rfl 0 4 rfl rfl xc_0 ⟨(Nat.le_of_ble_eq_true rfl), (Nat.le_of_ble_eq_true rfl)⟩ ⟨rfl, rfl⟩ hl.1 rfl (Nat.le_of_ble_eq_true rfl) ⟨Nat.zero_le _, Nat.zero_le _⟩ dX4_input_2 (fun H locs (w : Wd D (kT cI cO) (va_A _ _) _ _ (xW cI cO a s f R) H locs) => ?_)
  refine x_eqi (x := o_X4_isSample s f k) (y := wIn k 0 ((s 0) - 1)) rfl ?_
  refine lv_if_eq (tgt := 17) S.1 S.2.1 dX4_input_5 (by decide) (fun (c_1 : (wIn k 0 ((s 0) - 1)) = 0) => ?_) (fun (c_1 : ¬ ((wIn k 0 ((s 0) - 1)) = 0)) => ?_)
  · refine x_ldc S lk_RX4_64 dX4_input_17 ?_
    exact x_reti S w hr hlk dX4_input_19 (show (-2000000001) = o_X4_input s f N k from by simp only [o_X4_input, if_pos c_1]) (show xW cI cO a s f R = xW cI cO a s f R from rfl)
  · have hj := wIn_j hN h4 h48 c_1
    refine lv_aload_n S.1 S.2.1 dX4_input_8 rfl (lv_at hl 0 rfl) ?_
    refine xr_6 S w lk_RX4_41 dX4_input_9 ?_
    refine lv_iload_n S.1 S.2.1 dX4_input_12 rfl (lv_at hl 1 rfl) ?_
    refine x_iald S w 6 0 (g := f 1) (v := (f 1) (Int32.toNatClampNeg k)) (Int32.toNatClampNeg k) (by have := hj.1; omega) (hj.2) (Nat.le_of_ble_eq_true rfl) (xc_6) rfl (rfl) dX4_input_13 ?_
    refine lv_goto (tgt := 19) S.1 S.2.1 dX4_input_14 (by decide) ?_
    exact x_reti S w hr hlk dX4_input_19 (show (f 1) (Int32.toNatClampNeg k) = o_X4_input s f N k from by simp only [o_X4_input, if_neg c_1]) (show xW cI cO a s f R = xW cI cO a s f R from rfl)
def o_X4_setInput (s : Nat → Int32) (f : Nat → Nat → Int32) (N : Nat) (k : Int32) (v : Int32) : Int32 × (Nat → Nat → Int32) := if (s 11) = 0 then if (wIn k 0 ((s 0) - 1)) = 0 then ((-2000000001), f) else if (wIn v (-1000000) 1000000) = 0 then ((-2000000001), f) else ((f 1) (Int32.toNatClampNeg k), va_up f 1 (upd (f 1) (Int32.toNatClampNeg k) v)) else ((-2000000002), f)
set_option maxHeartbeats 4000000 in
set_option maxRecDepth 100000 in
theorem k_X4_setInput (l : Launch) (D : va_G) (cI cO : ClassId) (a : Nat → Nat) (R : va_W) (s : Nat → Int32) (f : Nat → Nat → Int32) (N : Nat) (k : Int32) (v : Int32) (hN : s 0 = nI N) (h4 : 4 ≤ N) (h48 : N ≤ 48) : Mi l yX4_setInput cX4_setInput 4 (some .int) { frames := 2, cells := 0, slots := 0, locals := 43 } D (kT cI cO) (xW cI cO a s f R) [.ref (a 0), .int k, .int v] (xW cI cO a s (o_X4_setInput s f N k v).2 R) (o_X4_setInput s f N k v).1 := by
  intro sz
  refine ent (by decide +kernel) (Nat.le_of_ble_eq_true rfl) ?_
  intro p e st m below meth c ls S hr hlk hnm w hsz hl
  have hl : lv_has ls 4 [(0, .ref (a 0)), (1, .int k), (2, .int v)] := hl
  refine lv_aload_n S.1 S.2.1 dX4_setInput_0 rfl (lv_at hl 0 rfl) ?_
  refine xg_11 S w lk_RX4_112 dX4_setInput_1 ?_
  refine lv_if_eq (tgt := 10) S.1 S.2.1 dX4_setInput_4 (by decide) (fun (c_1 : (s 11) = 0) => ?_) (fun (c_1 : ¬ ((s 11) = 0)) => ?_)
  · refine lv_aload_n S.1 S.2.1 dX4_setInput_10 rfl (lv_at hl 0 rfl) ?_
    refine lv_iload_n S.1 S.2.1 dX4_setInput_11 rfl (lv_at hl 1 rfl) ?_
    refine x_Vi (As := [.int k]) (rest := []) S w (goodV lk_RX4_69 li_X4_isSample ls_X4_isSample ln_RX4 lc_X4_isSample) hV_X4_isSample (k_X4_isSample l D cI cO a R s f k) rfl 0 4 rfl rfl xc_0 ⟨(Nat.le_of_ble_eq_true rfl), (Nat.le_of_ble_eq_true rfl)⟩ ⟨rfl, rfl⟩ hl.1 rfl (Nat.le_of_ble_eq_true rfl) ⟨Nat.zero_le _, Nat.zero_le _⟩ dX4_setInput_12 (fun H locs (w : Wd D (kT cI cO) (va_A _ _) _ _ (xW cI cO a s f R) H locs) => ?_)
    refine x_eqi (x := o_X4_isSample s f k) (y := wIn k 0 ((s 0) - 1)) rfl ?_
    refine lv_if_eq (tgt := 25) S.1 S.2.1 dX4_setInput_15 (by decide) (fun (c_2 : (wIn k 0 ((s 0) - 1)) = 0) => ?_) (fun (c_2 : ¬ ((wIn k 0 ((s 0) - 1)) = 0)) => ?_)
    · refine x_ldc S lk_RX4_64 dX4_setInput_25 ?_
      exact x_reti S w hr hlk dX4_setInput_27 (show (-2000000001) = (o_X4_setInput s f N k v).1 from by simp only [o_X4_setInput, if_pos c_1, if_pos c_2]) (show xW cI cO a s f R = xW cI cO a s (o_X4_setInput s f N k v).2 R from by simp only [o_X4_setInput, if_pos c_1, if_pos c_2])
    · have hj := wIn_j hN h4 h48 c_2
      refine lv_iload_n S.1 S.2.1 dX4_setInput_18 rfl (lv_at hl 2 rfl) ?_
      refine x_Si (As := [.int v]) (rest := []) S w (goodS lk_RX4_73 lt_X4_isSignal ln_RX4 lc_X4_isSignal) hd_X4_isSignal (k_X4_isSignal l _ _ (xW cI cO a s f R) v) rfl ⟨(Nat.le_of_ble_eq_true rfl), (Nat.le_of_ble_eq_true rfl)⟩ ⟨rfl, rfl⟩ hl.1 rfl (Nat.le_of_ble_eq_true rfl) ⟨Nat.zero_le _, Nat.zero_le _⟩ dX4_setInput_19 (fun H locs (w : Wd D (kT cI cO) (va_A _ _) _ _ (xW cI cO a s f R) H locs) => ?_)
      refine x_eqi (x := o_X4_isSignal v) (y := wIn v (-1000000) 1000000) rfl ?_
      refine lv_if_ne (tgt := 28) S.1 S.2.1 dX4_setInput_22 (by decide) (fun (c_3 : ¬ (wIn v (-1000000) 1000000) = 0) => ?_) (fun (c_3 : (wIn v (-1000000) 1000000) = 0) => ?_)
      · refine lv_aload_n S.1 S.2.1 dX4_setInput_28 rfl (lv_at hl 0 rfl) ?_
        refine xr_6 S w lk_RX4_41 dX4_setInput_29 ?_
        refine lv_iload_n S.1 S.2.1 dX4_setInput_32 rfl (lv_at hl 1 rfl) ?_
        refine x_iald S w 6 0 (g := f 1) (v := (f 1) (Int32.toNatClampNeg k)) (Int32.toNatClampNeg k) (by have := hj.1; omega) (hj.2) (Nat.le_of_ble_eq_true rfl) (xc_6) rfl (rfl) dX4_setInput_33 ?_
        refine lv_istore_n (lv' := [(3, .int ((f 1) (Int32.toNatClampNeg k))), (0, .ref (a 0)), (1, .int k), (2, .int v)]) S.1 S.2.1 dX4_setInput_34 rfl hl (by decide) rfl (fun ls hl => ?_)
        refine lv_aload_n S.1 S.2.1 dX4_setInput_35 rfl (lv_at hl 1 rfl) ?_
        refine xr_6 S w lk_RX4_41 dX4_setInput_36 ?_
        refine lv_iload_n S.1 S.2.1 dX4_setInput_39 rfl (lv_at hl 2 rfl) ?_
        refine lv_iload_n S.1 S.2.1 dX4_setInput_40 rfl (lv_at hl 3 rfl) ?_
        refine x_iast S w 6 0 (g := f 1) (Int32.toNatClampNeg k) (by have := hj.1; omega) (hj.2) (Nat.le_of_ble_eq_true rfl) (xc_6) rfl (xs_1) dX4_setInput_41 (fun H locs (w : Wd D (kT cI cO) (va_A _ _) _ _ (xW cI cO a s (va_up f 1 (upd (f 1) (Int32.toNatClampNeg k) v)) R) H locs) => ?_)
        refine lv_iload_n S.1 S.2.1 dX4_setInput_42 rfl (lv_at hl 0 rfl) ?_
        exact x_reti S w hr hlk dX4_setInput_43 (show (f 1) (Int32.toNatClampNeg k) = (o_X4_setInput s f N k v).1 from by simp only [o_X4_setInput, if_pos c_1, if_neg c_2, if_neg c_3]) (show xW cI cO a s (va_up f 1 (upd (f 1) (Int32.toNatClampNeg k) v)) R = xW cI cO a s (o_X4_setInput s f N k v).2 R from by simp only [o_X4_setInput, if_pos c_1, if_neg c_2, if_neg c_3])
      · refine x_ldc S lk_RX4_64 dX4_setInput_25 ?_
        exact x_reti S w hr hlk dX4_setInput_27 (show (-2000000001) = (o_X4_setInput s f N k v).1 from by simp only [o_X4_setInput, if_pos c_1, if_neg c_2, if_pos c_3]) (show xW cI cO a s f R = xW cI cO a s (o_X4_setInput s f N k v).2 R from by simp only [o_X4_setInput, if_pos c_1, if_neg c_2, if_pos c_3])
  · refine x_ldc S lk_RX4_115 dX4_setInput_7 ?_
    exact x_reti S w hr hlk dX4_setInput_9 (show (-2000000002) = (o_X4_setInput s f N k v).1 from by simp only [o_X4_setInput, if_neg c_1]) (show xW cI cO a s f R = xW cI cO a s (o_X4_setInput s f N k v).2 R from by simp only [o_X4_setInput, if_neg c_1])
def o_X4_reference (s : Nat → Int32) (f : Nat → Nat → Int32) (N : Nat) (k : Int32) : Int32 := if (wIn k 0 ((s 0) - 1)) = 0 then (-2000000001) else (f 0) (Int32.toNatClampNeg k)
set_option maxHeartbeats 4000000 in
set_option maxRecDepth 100000 in
theorem k_X4_reference (l : Launch) (D : va_G) (cI cO : ClassId) (a : Nat → Nat) (R : va_W) (s : Nat → Int32) (f : Nat → Nat → Int32) (N : Nat) (k : Int32) (hN : s 0 = nI N) (h4 : 4 ≤ N) (h48 : N ≤ 48) : Mi l yX4_reference cX4_reference 2 (some .int) { frames := 2, cells := 0, slots := 0, locals := 43 } D (kT cI cO) (xW cI cO a s f R) [.ref (a 0), .int k] (xW cI cO a s f R) (o_X4_reference s f N k) := by
  intro sz
  refine ent (by decide +kernel) (Nat.le_of_ble_eq_true rfl) ?_
  intro p e st m below meth c ls S hr hlk hnm w hsz hl
  have hl : lv_has ls 2 [(0, .ref (a 0)), (1, .int k)] := hl
  refine lv_aload_n S.1 S.2.1 dX4_reference_0 rfl (lv_at hl 0 rfl) ?_
  refine lv_iload_n S.1 S.2.1 dX4_reference_1 rfl (lv_at hl 1 rfl) ?_
  refine x_Vi (As := [.int k]) (rest := []) S w (goodV lk_RX4_69 li_X4_isSample ls_X4_isSample ln_RX4 lc_X4_isSample) hV_X4_isSample (k_X4_isSample l D cI cO a R s f k) rfl 0 4 rfl rfl xc_0 ⟨(Nat.le_of_ble_eq_true rfl), (Nat.le_of_ble_eq_true rfl)⟩ ⟨rfl, rfl⟩ hl.1 rfl (Nat.le_of_ble_eq_true rfl) ⟨Nat.zero_le _, Nat.zero_le _⟩ dX4_reference_2 (fun H locs (w : Wd D (kT cI cO) (va_A _ _) _ _ (xW cI cO a s f R) H locs) => ?_)
  refine x_eqi (x := o_X4_isSample s f k) (y := wIn k 0 ((s 0) - 1)) rfl ?_
  refine lv_if_eq (tgt := 17) S.1 S.2.1 dX4_reference_5 (by decide) (fun (c_1 : (wIn k 0 ((s 0) - 1)) = 0) => ?_) (fun (c_1 : ¬ ((wIn k 0 ((s 0) - 1)) = 0)) => ?_)
  · refine x_ldc S lk_RX4_64 dX4_reference_17 ?_
    exact x_reti S w hr hlk dX4_reference_19 (show (-2000000001) = o_X4_reference s f N k from by simp only [o_X4_reference, if_pos c_1]) (show xW cI cO a s f R = xW cI cO a s f R from rfl)
  · have hj := wIn_j hN h4 h48 c_1
    refine lv_aload_n S.1 S.2.1 dX4_reference_8 rfl (lv_at hl 0 rfl) ?_
    refine xr_5 S w lk_RX4_37 dX4_reference_9 ?_
    refine lv_iload_n S.1 S.2.1 dX4_reference_12 rfl (lv_at hl 1 rfl) ?_
    refine x_iald S w 5 0 (g := f 0) (v := (f 0) (Int32.toNatClampNeg k)) (Int32.toNatClampNeg k) (by have := hj.1; omega) (hj.2) (Nat.le_of_ble_eq_true rfl) (xc_5) rfl (rfl) dX4_reference_13 ?_
    refine lv_goto (tgt := 19) S.1 S.2.1 dX4_reference_14 (by decide) ?_
    exact x_reti S w hr hlk dX4_reference_19 (show (f 0) (Int32.toNatClampNeg k) = o_X4_reference s f N k from by simp only [o_X4_reference, if_neg c_1]) (show xW cI cO a s f R = xW cI cO a s f R from rfl)
def o_X4_count (s : Nat → Int32) (f : Nat → Nat → Int32) (q : Int32) : Int32 := if q = 0 then s 13 else if q = 1 then s 19 else if q = 2 then s 14 else if q = 3 then s 15 else if q = 4 then s 16 else (-2000000001)
set_option maxHeartbeats 4000000 in
set_option maxRecDepth 100000 in
theorem k_X4_count (l : Launch) (D : va_G) (cI cO : ClassId) (a : Nat → Nat) (R : va_W) (s : Nat → Int32) (f : Nat → Nat → Int32) (q : Int32) : Mi l yX4_count cX4_count 2 (some .int) { frames := 0, cells := 0, slots := 0, locals := 0 } D (kT cI cO) (xW cI cO a s f R) [.ref (a 0), .int q] (xW cI cO a s f R) (o_X4_count s f q) := by
  intro sz
  refine ent (by decide +kernel) (Nat.le_of_ble_eq_true rfl) ?_
  intro p e st m below meth c ls S hr hlk hnm w hsz hl
  have hl : lv_has ls 2 [(0, .ref (a 0)), (1, .int q)] := hl
  refine lv_iload_n S.1 S.2.1 dX4_count_0 rfl (lv_at hl 1 rfl) ?_
  by_cases c_1 : q = 0
  · refine lv_tableIn (off := 35) (tgt := 36) S.1 S.2.1 dX4_count_1 (by rw [c_1]; decide) (by rw [c_1]; decide) (by rw [c_1]; decide) (by decide) ?_
    refine lv_aload_n S.1 S.2.1 dX4_count_36 rfl (lv_at hl 0 rfl) ?_
    refine xg_13 S w lk_RX4_119 dX4_count_37 ?_
    exact x_reti S w hr hlk dX4_count_40 (show s 13 = o_X4_count s f q from by simp only [o_X4_count, if_pos c_1]) (show xW cI cO a s f R = xW cI cO a s f R from rfl)
  by_cases c_2 : q = 1
  · refine lv_tableIn (off := 40) (tgt := 41) S.1 S.2.1 dX4_count_1 (by rw [c_2]; decide) (by rw [c_2]; decide) (by rw [c_2]; decide) (by decide) ?_
    refine lv_aload_n S.1 S.2.1 dX4_count_41 rfl (lv_at hl 0 rfl) ?_
    refine xr_3 S w lk_RX4_26 dX4_count_42 ?_
    refine xg_19 S w lk_RX4_136 dX4_count_45 ?_
    exact x_reti S w hr hlk dX4_count_48 (show s 19 = o_X4_count s f q from by simp only [o_X4_count, if_neg c_1, if_pos c_2]) (show xW cI cO a s f R = xW cI cO a s f R from rfl)
  by_cases c_3 : q = 2
  · refine lv_tableIn (off := 48) (tgt := 49) S.1 S.2.1 dX4_count_1 (by rw [c_3]; decide) (by rw [c_3]; decide) (by rw [c_3]; decide) (by decide) ?_
    refine lv_aload_n S.1 S.2.1 dX4_count_49 rfl (lv_at hl 0 rfl) ?_
    refine xg_14 S w lk_RX4_130 dX4_count_50 ?_
    exact x_reti S w hr hlk dX4_count_53 (show s 14 = o_X4_count s f q from by simp only [o_X4_count, if_neg c_1, if_neg c_2, if_pos c_3]) (show xW cI cO a s f R = xW cI cO a s f R from rfl)
  by_cases c_4 : q = 3
  · refine lv_tableIn (off := 53) (tgt := 54) S.1 S.2.1 dX4_count_1 (by rw [c_4]; decide) (by rw [c_4]; decide) (by rw [c_4]; decide) (by decide) ?_
    refine lv_aload_n S.1 S.2.1 dX4_count_54 rfl (lv_at hl 0 rfl) ?_
    refine xg_15 S w lk_RX4_139 dX4_count_55 ?_
    exact x_reti S w hr hlk dX4_count_58 (show s 15 = o_X4_count s f q from by simp only [o_X4_count, if_neg c_1, if_neg c_2, if_neg c_3, if_pos c_4]) (show xW cI cO a s f R = xW cI cO a s f R from rfl)
  by_cases c_5 : q = 4
  · refine lv_tableIn (off := 58) (tgt := 59) S.1 S.2.1 dX4_count_1 (by rw [c_5]; decide) (by rw [c_5]; decide) (by rw [c_5]; decide) (by decide) ?_
    refine lv_aload_n S.1 S.2.1 dX4_count_59 rfl (lv_at hl 0 rfl) ?_
    refine xg_16 S w lk_RX4_142 dX4_count_60 ?_
    exact x_reti S w hr hlk dX4_count_63 (show s 16 = o_X4_count s f q from by simp only [o_X4_count, if_neg c_1, if_neg c_2, if_neg c_3, if_neg c_4, if_pos c_5]) (show xW cI cO a s f R = xW cI cO a s f R from rfl)
  refine lv_tableOut (tgt := 64) S.1 S.2.1 dX4_count_1 (x_tout5 c_1 c_2 c_3 c_4 c_5) (by decide) ?_
  refine x_ldc S lk_RX4_64 dX4_count_64 ?_
  exact x_reti S w hr hlk dX4_count_66 (show (-2000000001) = o_X4_count s f q from by simp only [o_X4_count, if_neg c_1, if_neg c_2, if_neg c_3, if_neg c_4, if_neg c_5]) (show xW cI cO a s f R = xW cI cO a s f R from rfl)
def o_X4_best (s : Nat → Int32) (f : Nat → Nat → Int32) (q : Int32) : Int32 := if (wIn q 0 1) = 0 then (-2000000001) else if (s 20) = 0 then (-2000000004) else if q = 0 then s 21 else s 22
set_option maxHeartbeats 4000000 in
set_option maxRecDepth 100000 in
theorem k_X4_best (l : Launch) (D : va_G) (cI cO : ClassId) (a : Nat → Nat) (R : va_W) (s : Nat → Int32) (f : Nat → Nat → Int32) (q : Int32) : Mi l yX4_best cX4_best 2 (some .int) { frames := 1, cells := 0, slots := 0, locals := 22 } D (kT cI cO) (xW cI cO a s f R) [.ref (a 0), .int q] (xW cI cO a s f R) (o_X4_best s f q) := by
  intro sz
  refine ent (by decide +kernel) (Nat.le_of_ble_eq_true rfl) ?_
  intro p e st m below meth c ls S hr hlk hnm w hsz hl
  have hl : lv_has ls 2 [(0, .ref (a 0)), (1, .int q)] := hl
  refine lv_iload_n S.1 S.2.1 dX4_best_0 rfl (lv_at hl 1 rfl) ?_
  refine lv_iconst (v := 0) S.1 S.2.1 dX4_best_1 (by decide) ?_
  refine lv_iconst (v := 1) S.1 S.2.1 dX4_best_2 (by decide) ?_
  refine x_Si (As := [.int q, .int 0, .int 1]) (rest := []) S w (goodS lk_RX4_60 lt_X4_isWithin ln_RX4 lc_X4_isWithin) hd_X4_isWithin (k_X4_isWithin l _ _ (xW cI cO a s f R) q 0 1) rfl ⟨(Nat.le_of_ble_eq_true rfl), (Nat.le_of_ble_eq_true rfl)⟩ ⟨rfl, rfl⟩ hl.1 rfl (Nat.le_of_ble_eq_true rfl) ⟨Nat.zero_le _, Nat.zero_le _⟩ dX4_best_3 (fun H locs (w : Wd D (kT cI cO) (va_A _ _) _ _ (xW cI cO a s f R) H locs) => ?_)
  refine lv_if_ne (tgt := 12) S.1 S.2.1 dX4_best_6 (by decide) (fun (c_1 : ¬ (wIn q 0 1) = 0) => ?_) (fun (c_1 : (wIn q 0 1) = 0) => ?_)
  · refine lv_aload_n S.1 S.2.1 dX4_best_12 rfl (lv_at hl 0 rfl) ?_
    refine xr_4 S w lk_RX4_33 dX4_best_13 ?_
    refine xg_20 S w lk_RX4_177 dX4_best_16 ?_
    refine lv_if_ne (tgt := 25) S.1 S.2.1 dX4_best_19 (by decide) (fun (c_2 : ¬ (s 20) = 0) => ?_) (fun (c_2 : (s 20) = 0) => ?_)
    · refine lv_iload_n S.1 S.2.1 dX4_best_25 rfl (lv_at hl 1 rfl) ?_
      refine lv_if_ne (tgt := 39) S.1 S.2.1 dX4_best_26 (by decide) (fun (c_3 : ¬ q = 0) => ?_) (fun (c_3 : q = 0) => ?_)
      · refine lv_aload_n S.1 S.2.1 dX4_best_39 rfl (lv_at hl 0 rfl) ?_
        refine xr_4 S w lk_RX4_33 dX4_best_40 ?_
        refine xg_22 S w lk_RX4_183 dX4_best_43 ?_
        exact x_reti S w hr hlk dX4_best_46 (show s 22 = o_X4_best s f q from by simp only [o_X4_best, if_neg c_1, if_neg c_2, if_neg c_3]) (show xW cI cO a s f R = xW cI cO a s f R from rfl)
      · refine lv_aload_n S.1 S.2.1 dX4_best_29 rfl (lv_at hl 0 rfl) ?_
        refine xr_4 S w lk_RX4_33 dX4_best_30 ?_
        refine xg_21 S w lk_RX4_180 dX4_best_33 ?_
        refine lv_goto (tgt := 46) S.1 S.2.1 dX4_best_36 (by decide) ?_
        exact x_reti S w hr hlk dX4_best_46 (show s 21 = o_X4_best s f q from by simp only [o_X4_best, if_neg c_1, if_neg c_2, if_pos c_3]) (show xW cI cO a s f R = xW cI cO a s f R from rfl)
    · refine x_ldc S lk_RX4_129 dX4_best_22 ?_
      exact x_reti S w hr hlk dX4_best_24 (show (-2000000004) = o_X4_best s f q from by simp only [o_X4_best, if_neg c_1, if_pos c_2]) (show xW cI cO a s f R = xW cI cO a s f R from rfl)
  · refine x_ldc S lk_RX4_64 dX4_best_9 ?_
    exact x_reti S w hr hlk dX4_best_11 (show (-2000000001) = o_X4_best s f q from by simp only [o_X4_best, if_pos c_1]) (show xW cI cO a s f R = xW cI cO a s f R from rfl)
def o_X4_bestInput (s : Nat → Int32) (f : Nat → Nat → Int32) (N : Nat) (k : Int32) : Int32 := if (wIn k 0 ((s 0) - 1)) = 0 then (-2000000001) else if (s 20) = 0 then (-2000000004) else (f 9) (Int32.toNatClampNeg k)
set_option maxHeartbeats 4000000 in
set_option maxRecDepth 100000 in
theorem k_X4_bestInput (l : Launch) (D : va_G) (cI cO : ClassId) (a : Nat → Nat) (R : va_W) (s : Nat → Int32) (f : Nat → Nat → Int32) (N : Nat) (k : Int32) (hN : s 0 = nI N) (h4 : 4 ≤ N) (h48 : N ≤ 48) : Mi l yX4_bestInput cX4_bestInput 2 (some .int) { frames := 2, cells := 0, slots := 0, locals := 43 } D (kT cI cO) (xW cI cO a s f R) [.ref (a 0), .int k] (xW cI cO a s f R) (o_X4_bestInput s f N k) := by
  intro sz
  refine ent (by decide +kernel) (Nat.le_of_ble_eq_true rfl) ?_
  intro p e st m below meth c ls S hr hlk hnm w hsz hl
  have hl : lv_has ls 2 [(0, .ref (a 0)), (1, .int k)] := hl
  refine lv_aload_n S.1 S.2.1 dX4_bestInput_0 rfl (lv_at hl 0 rfl) ?_
  refine lv_iload_n S.1 S.2.1 dX4_bestInput_1 rfl (lv_at hl 1 rfl) ?_
  refine x_Vi (As := [.int k]) (rest := []) S w (goodV lk_RX4_69 li_X4_isSample ls_X4_isSample ln_RX4 lc_X4_isSample) hV_X4_isSample (k_X4_isSample l D cI cO a R s f k) rfl 0 4 rfl rfl xc_0 ⟨(Nat.le_of_ble_eq_true rfl), (Nat.le_of_ble_eq_true rfl)⟩ ⟨rfl, rfl⟩ hl.1 rfl (Nat.le_of_ble_eq_true rfl) ⟨Nat.zero_le _, Nat.zero_le _⟩ dX4_bestInput_2 (fun H locs (w : Wd D (kT cI cO) (va_A _ _) _ _ (xW cI cO a s f R) H locs) => ?_)
  refine x_eqi (x := o_X4_isSample s f k) (y := wIn k 0 ((s 0) - 1)) rfl ?_
  refine lv_if_ne (tgt := 11) S.1 S.2.1 dX4_bestInput_5 (by decide) (fun (c_1 : ¬ (wIn k 0 ((s 0) - 1)) = 0) => ?_) (fun (c_1 : (wIn k 0 ((s 0) - 1)) = 0) => ?_)
  · have hj := wIn_j hN h4 h48 c_1
    refine lv_aload_n S.1 S.2.1 dX4_bestInput_11 rfl (lv_at hl 0 rfl) ?_
    refine xr_4 S w lk_RX4_33 dX4_bestInput_12 ?_
    refine xg_20 S w lk_RX4_177 dX4_bestInput_15 ?_
    refine lv_if_eq (tgt := 33) S.1 S.2.1 dX4_bestInput_18 (by decide) (fun (c_2 : (s 20) = 0) => ?_) (fun (c_2 : ¬ ((s 20) = 0)) => ?_)
    · refine x_ldc S lk_RX4_129 dX4_bestInput_33 ?_
      exact x_reti S w hr hlk dX4_bestInput_35 (show (-2000000004) = o_X4_bestInput s f N k from by simp only [o_X4_bestInput, if_neg c_1, if_pos c_2]) (show xW cI cO a s f R = xW cI cO a s f R from rfl)
    · refine lv_aload_n S.1 S.2.1 dX4_bestInput_21 rfl (lv_at hl 0 rfl) ?_
      refine xr_4 S w lk_RX4_33 dX4_bestInput_22 ?_
      refine xr_14 S w lk_RX4_186 dX4_bestInput_25 ?_
      refine lv_iload_n S.1 S.2.1 dX4_bestInput_28 rfl (lv_at hl 1 rfl) ?_
      refine x_iald S w 14 0 (g := f 9) (v := (f 9) (Int32.toNatClampNeg k)) (Int32.toNatClampNeg k) (by have := hj.1; omega) (hj.2) (Nat.le_of_ble_eq_true rfl) (xc_14) rfl (rfl) dX4_bestInput_29 ?_
      refine lv_goto (tgt := 35) S.1 S.2.1 dX4_bestInput_30 (by decide) ?_
      exact x_reti S w hr hlk dX4_bestInput_35 (show (f 9) (Int32.toNatClampNeg k) = o_X4_bestInput s f N k from by simp only [o_X4_bestInput, if_neg c_1, if_neg c_2]) (show xW cI cO a s f R = xW cI cO a s f R from rfl)
  · refine x_ldc S lk_RX4_64 dX4_bestInput_8 ?_
    exact x_reti S w hr hlk dX4_bestInput_10 (show (-2000000001) = o_X4_bestInput s f N k from by simp only [o_X4_bestInput, if_pos c_1]) (show xW cI cO a s f R = xW cI cO a s f R from rfl)
def o_X4_setPlant (s : Nat → Int32) (f : Nat → Nat → Int32) (k : Int32) (v : Int32) : Int32 × (Nat → Nat → Int32) := if (wIn k 0 5) = 0 then ((-2000000001), f) else if (wIn v (-3000) 3000) = 0 then ((-2000000001), f) else ((f 6) (Int32.toNatClampNeg k), va_up f 6 (upd (f 6) (Int32.toNatClampNeg k) v))
set_option maxHeartbeats 4000000 in
set_option maxRecDepth 100000 in
theorem k_X4_setPlant (l : Launch) (D : va_G) (cI cO : ClassId) (a : Nat → Nat) (R : va_W) (s : Nat → Int32) (f : Nat → Nat → Int32) (k : Int32) (v : Int32) : Mi l yX4_setPlant cX4_setPlant 4 (some .int) { frames := 1, cells := 0, slots := 0, locals := 22 } D (kT cI cO) (xW cI cO a s f R) [.ref (a 0), .int k, .int v] (xW cI cO a s (o_X4_setPlant s f k v).2 R) (o_X4_setPlant s f k v).1 := by
  intro sz
  refine ent (by decide +kernel) (Nat.le_of_ble_eq_true rfl) ?_
  intro p e st m below meth c ls S hr hlk hnm w hsz hl
  have hl : lv_has ls 4 [(0, .ref (a 0)), (1, .int k), (2, .int v)] := hl
  refine lv_iload_n S.1 S.2.1 dX4_setPlant_0 rfl (lv_at hl 1 rfl) ?_
  refine lv_iconst (v := 0) S.1 S.2.1 dX4_setPlant_1 (by decide) ?_
  refine lv_iconst (v := 5) S.1 S.2.1 dX4_setPlant_2 (by decide) ?_
  refine x_Si (As := [.int k, .int 0, .int 5]) (rest := []) S w (goodS lk_RX4_60 lt_X4_isWithin ln_RX4 lc_X4_isWithin) hd_X4_isWithin (k_X4_isWithin l _ _ (xW cI cO a s f R) k 0 5) rfl ⟨(Nat.le_of_ble_eq_true rfl), (Nat.le_of_ble_eq_true rfl)⟩ ⟨rfl, rfl⟩ hl.1 rfl (Nat.le_of_ble_eq_true rfl) ⟨Nat.zero_le _, Nat.zero_le _⟩ dX4_setPlant_3 (fun H locs (w : Wd D (kT cI cO) (va_A _ _) _ _ (xW cI cO a s f R) H locs) => ?_)
  refine lv_if_eq (tgt := 22) S.1 S.2.1 dX4_setPlant_6 (by decide) (fun (c_1 : (wIn k 0 5) = 0) => ?_) (fun (c_1 : ¬ ((wIn k 0 5) = 0)) => ?_)
  · refine x_ldc S lk_RX4_64 dX4_setPlant_22 ?_
    exact x_reti S w hr hlk dX4_setPlant_24 (show (-2000000001) = (o_X4_setPlant s f k v).1 from by simp only [o_X4_setPlant, if_pos c_1]) (show xW cI cO a s f R = xW cI cO a s (o_X4_setPlant s f k v).2 R from by simp only [o_X4_setPlant, if_pos c_1])
  · have hj := wIn_ix (n := 5) (by decide) rfl c_1
    refine lv_iload_n S.1 S.2.1 dX4_setPlant_9 rfl (lv_at hl 2 rfl) ?_
    refine lv_sipush (v := (-3000)) S.1 S.2.1 dX4_setPlant_10 (by decide) ?_
    refine lv_sipush (v := 3000) S.1 S.2.1 dX4_setPlant_13 (by decide) ?_
    refine x_Si (As := [.int v, .int (-3000), .int 3000]) (rest := []) S w (goodS lk_RX4_60 lt_X4_isWithin ln_RX4 lc_X4_isWithin) hd_X4_isWithin (k_X4_isWithin l _ _ (xW cI cO a s f R) v (-3000) 3000) rfl ⟨(Nat.le_of_ble_eq_true rfl), (Nat.le_of_ble_eq_true rfl)⟩ ⟨rfl, rfl⟩ hl.1 rfl (Nat.le_of_ble_eq_true rfl) ⟨Nat.zero_le _, Nat.zero_le _⟩ dX4_setPlant_16 (fun H locs (w : Wd D (kT cI cO) (va_A _ _) _ _ (xW cI cO a s f R) H locs) => ?_)
    refine lv_if_ne (tgt := 25) S.1 S.2.1 dX4_setPlant_19 (by decide) (fun (c_2 : ¬ (wIn v (-3000) 3000) = 0) => ?_) (fun (c_2 : (wIn v (-3000) 3000) = 0) => ?_)
    · refine lv_aload_n S.1 S.2.1 dX4_setPlant_25 rfl (lv_at hl 0 rfl) ?_
      refine xr_2 S w lk_RX4_19 dX4_setPlant_26 ?_
      refine xr_11 S w lk_RX4_195 dX4_setPlant_29 ?_
      refine lv_iload_n S.1 S.2.1 dX4_setPlant_32 rfl (lv_at hl 1 rfl) ?_
      refine x_iald S w 11 0 (g := f 6) (v := (f 6) (Int32.toNatClampNeg k)) (Int32.toNatClampNeg k) (by have := hj.1; omega) (hj.2) (Nat.le_of_ble_eq_true rfl) (xc_11) rfl (rfl) dX4_setPlant_33 ?_
      refine lv_istore_n (lv' := [(3, .int ((f 6) (Int32.toNatClampNeg k))), (0, .ref (a 0)), (1, .int k), (2, .int v)]) S.1 S.2.1 dX4_setPlant_34 rfl hl (by decide) rfl (fun ls hl => ?_)
      refine lv_aload_n S.1 S.2.1 dX4_setPlant_35 rfl (lv_at hl 1 rfl) ?_
      refine xr_2 S w lk_RX4_19 dX4_setPlant_36 ?_
      refine xr_11 S w lk_RX4_195 dX4_setPlant_39 ?_
      refine lv_iload_n S.1 S.2.1 dX4_setPlant_42 rfl (lv_at hl 2 rfl) ?_
      refine lv_iload_n S.1 S.2.1 dX4_setPlant_43 rfl (lv_at hl 3 rfl) ?_
      refine x_iast S w 11 0 (g := f 6) (Int32.toNatClampNeg k) (by have := hj.1; omega) (hj.2) (Nat.le_of_ble_eq_true rfl) (xc_11) rfl (xs_6) dX4_setPlant_44 (fun H locs (w : Wd D (kT cI cO) (va_A _ _) _ _ (xW cI cO a s (va_up f 6 (upd (f 6) (Int32.toNatClampNeg k) v)) R) H locs) => ?_)
      refine lv_iload_n S.1 S.2.1 dX4_setPlant_45 rfl (lv_at hl 0 rfl) ?_
      exact x_reti S w hr hlk dX4_setPlant_46 (show (f 6) (Int32.toNatClampNeg k) = (o_X4_setPlant s f k v).1 from by simp only [o_X4_setPlant, if_neg c_1, if_neg c_2]) (show xW cI cO a s (va_up f 6 (upd (f 6) (Int32.toNatClampNeg k) v)) R = xW cI cO a s (o_X4_setPlant s f k v).2 R from by simp only [o_X4_setPlant, if_neg c_1, if_neg c_2])
    · refine x_ldc S lk_RX4_64 dX4_setPlant_22 ?_
      exact x_reti S w hr hlk dX4_setPlant_24 (show (-2000000001) = (o_X4_setPlant s f k v).1 from by simp only [o_X4_setPlant, if_neg c_1, if_pos c_2]) (show xW cI cO a s f R = xW cI cO a s (o_X4_setPlant s f k v).2 R from by simp only [o_X4_setPlant, if_neg c_1, if_pos c_2])
def o_X4_setDisturbance (s : Nat → Int32) (f : Nat → Nat → Int32) (g : Int32) (d : Int32) : Int32 × (Nat → Int32) := if (wIn g 0 1000) = 0 then ((-2000000001), s) else (s 17, upd (upd s 17 g) 18 d)
set_option maxHeartbeats 4000000 in
set_option maxRecDepth 100000 in
theorem k_X4_setDisturbance (l : Launch) (D : va_G) (cI cO : ClassId) (a : Nat → Nat) (R : va_W) (s : Nat → Int32) (f : Nat → Nat → Int32) (g : Int32) (d : Int32) : Mi l yX4_setDisturbance cX4_setDisturbance 4 (some .int) { frames := 1, cells := 0, slots := 0, locals := 22 } D (kT cI cO) (xW cI cO a s f R) [.ref (a 0), .int g, .int d] (xW cI cO a (o_X4_setDisturbance s f g d).2 f R) (o_X4_setDisturbance s f g d).1 := by
  intro sz
  refine ent (by decide +kernel) (Nat.le_of_ble_eq_true rfl) ?_
  intro p e st m below meth c ls S hr hlk hnm w hsz hl
  have hl : lv_has ls 4 [(0, .ref (a 0)), (1, .int g), (2, .int d)] := hl
  refine lv_iload_n S.1 S.2.1 dX4_setDisturbance_0 rfl (lv_at hl 1 rfl) ?_
  refine lv_iconst (v := 0) S.1 S.2.1 dX4_setDisturbance_1 (by decide) ?_
  refine lv_sipush (v := 1000) S.1 S.2.1 dX4_setDisturbance_2 (by decide) ?_
  refine x_Si (As := [.int g, .int 0, .int 1000]) (rest := []) S w (goodS lk_RX4_60 lt_X4_isWithin ln_RX4 lc_X4_isWithin) hd_X4_isWithin (k_X4_isWithin l _ _ (xW cI cO a s f R) g 0 1000) rfl ⟨(Nat.le_of_ble_eq_true rfl), (Nat.le_of_ble_eq_true rfl)⟩ ⟨rfl, rfl⟩ hl.1 rfl (Nat.le_of_ble_eq_true rfl) ⟨Nat.zero_le _, Nat.zero_le _⟩ dX4_setDisturbance_5 (fun H locs (w : Wd D (kT cI cO) (va_A _ _) _ _ (xW cI cO a s f R) H locs) => ?_)
  refine lv_if_ne (tgt := 14) S.1 S.2.1 dX4_setDisturbance_8 (by decide) (fun (c_1 : ¬ (wIn g 0 1000) = 0) => ?_) (fun (c_1 : (wIn g 0 1000) = 0) => ?_)
  · refine lv_aload_n S.1 S.2.1 dX4_setDisturbance_14 rfl (lv_at hl 0 rfl) ?_
    refine xr_2 S w lk_RX4_19 dX4_setDisturbance_15 ?_
    refine xg_17 S w lk_RX4_198 dX4_setDisturbance_18 ?_
    refine lv_istore_n (lv' := [(3, .int (s 17)), (0, .ref (a 0)), (1, .int g), (2, .int d)]) S.1 S.2.1 dX4_setDisturbance_21 rfl hl (by decide) rfl (fun ls hl => ?_)
    refine lv_aload_n S.1 S.2.1 dX4_setDisturbance_22 rfl (lv_at hl 1 rfl) ?_
    refine xr_2 S w lk_RX4_19 dX4_setDisturbance_23 ?_
    refine lv_iload_n S.1 S.2.1 dX4_setDisturbance_26 rfl (lv_at hl 2 rfl) ?_
    refine xp_17 S w lk_RX4_198 dX4_setDisturbance_27 (fun H locs (w : Wd D (kT cI cO) (va_A _ _) _ _ (xW cI cO a (upd s 17 g) f R) H locs) => ?_)
    refine lv_aload_n S.1 S.2.1 dX4_setDisturbance_30 rfl (lv_at hl 1 rfl) ?_
    refine xr_2 S w lk_RX4_19 dX4_setDisturbance_31 ?_
    refine lv_iload_n S.1 S.2.1 dX4_setDisturbance_34 rfl (lv_at hl 3 rfl) ?_
    refine xp_18 S w lk_RX4_201 dX4_setDisturbance_35 (fun H locs (w : Wd D (kT cI cO) (va_A _ _) _ _ (xW cI cO a (upd (upd s 17 g) 18 d) f R) H locs) => ?_)
    refine lv_iload_n S.1 S.2.1 dX4_setDisturbance_38 rfl (lv_at hl 0 rfl) ?_
    exact x_reti S w hr hlk dX4_setDisturbance_39 (show s 17 = (o_X4_setDisturbance s f g d).1 from by simp only [o_X4_setDisturbance, if_neg c_1]) (show xW cI cO a (upd (upd s 17 g) 18 d) f R = xW cI cO a (o_X4_setDisturbance s f g d).2 f R from by simp only [o_X4_setDisturbance, if_neg c_1])
  · refine x_ldc S lk_RX4_64 dX4_setDisturbance_11 ?_
    exact x_reti S w hr hlk dX4_setDisturbance_13 (show (-2000000001) = (o_X4_setDisturbance s f g d).1 from by simp only [o_X4_setDisturbance, if_pos c_1]) (show xW cI cO a s f R = xW cI cO a (o_X4_setDisturbance s f g d).2 f R from by simp only [o_X4_setDisturbance, if_pos c_1])
