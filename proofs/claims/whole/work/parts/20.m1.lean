theorem sz_eq (v : Int32) : (if 0 ≤ v then v else -v) = iabs v := by
  unfold iabs
  by_cases h : v < 0
  · rw [if_pos h, if_neg (Int32.not_le.mpr h)]
  · rw [if_neg h, if_pos (Int32.not_lt.mp h)]
theorem dn_eq (x y : Int64) : (if x / y * y ≤ x then x / y else x / y - 1) = fdv x y := by
  unfold fdv
  by_cases h : x < x / y * y
  · rw [if_pos h, if_neg (Int64.not_le.mpr h)]
  · rw [if_neg h, if_pos (Int64.not_lt.mp h)]
def noS (s : Nat → Int32) (k : Int32) : Int32 := if wIn k 0 (s 0 - 1) = 0 then 1 else 0
theorem noS_0 {s : Nat → Int32} {k : Int32} (h : ¬ wIn k 0 (s 0 - 1) = 0) : noS s k = 0 := if_neg h
theorem noS_j {s : Nat → Int32} {k : Int32} {N : Nat} (hN : s 0 = nI N) (h4 : 4 ≤ N) (h48 : N ≤ 48) (h : noS s k = 0) : Int32.toNatClampNeg k < N ∧ k = nI (Int32.toNatClampNeg k) := by
  refine wIn_j hN h4 h48 (fun z => ?_)
  unfold noS at h
  rw [if_pos z] at h
  exact absurd h (by decide)
set_option maxHeartbeats 4000000 in
set_option maxRecDepth 100000 in
theorem k_X5_in (l : Launch) (D : va_G) (tys : List (ClassId × FieldType)) (ws : va_W) (v : Int32) (lo : Int32) (hi : Int32) : Mi l yX5_in cX5_in 3 (some .boolean) { frames := 0, cells := 0, slots := 0, locals := 0 } D tys ws [.int v, .int lo, .int hi] ws (wIn v lo hi) := by
  intro sz
  refine ent (by decide +kernel) (Nat.le_of_ble_eq_true rfl) ?_
  intro p e st m below meth c ls S hr hlk hnm w hsz hl
  have hl : lv_has ls 3 [(0, .int v), (1, .int lo), (2, .int hi)] := hl
  refine lv_iload_n S.1 S.2.1 dX5_in_0 rfl (lv_at hl 0 rfl) ?_
  refine lv_iload_n S.1 S.2.1 dX5_in_1 rfl (lv_at hl 1 rfl) ?_
  refine lv_icmp_lt (tgt := 14) S.1 S.2.1 dX5_in_2 (by decide) (fun (c_1 : v < lo) => ?_) (fun (c_1 : ¬ (v < lo)) => ?_)
  · refine lv_iconst (v := 0) S.1 S.2.1 dX5_in_14 (by decide) ?_
    exact x_retz S w hr hlk dX5_in_15 (Or.inl rfl) (show 0 = wIn v lo hi from by simp only [wIn, if_pos c_1]) (show ws = ws from rfl)
  · refine lv_iload_n S.1 S.2.1 dX5_in_5 rfl (lv_at hl 0 rfl) ?_
    refine lv_iload_n S.1 S.2.1 dX5_in_6 rfl (lv_at hl 2 rfl) ?_
    refine lv_icmp_gt (tgt := 14) S.1 S.2.1 dX5_in_7 (by decide) (fun (c_2 : hi < v) => ?_) (fun (c_2 : ¬ (hi < v)) => ?_)
    · refine lv_iconst (v := 0) S.1 S.2.1 dX5_in_14 (by decide) ?_
      exact x_retz S w hr hlk dX5_in_15 (Or.inl rfl) (show 0 = wIn v lo hi from by simp only [wIn, if_neg c_1, if_pos c_2]) (show ws = ws from rfl)
    · refine lv_iconst (v := 1) S.1 S.2.1 dX5_in_10 (by decide) ?_
      refine lv_goto (tgt := 15) S.1 S.2.1 dX5_in_11 (by decide) ?_
      exact x_retz S w hr hlk dX5_in_15 (Or.inr rfl) (show 1 = wIn v lo hi from by simp only [wIn, if_neg c_1, if_neg c_2]) (show ws = ws from rfl)
def o_X5_isAge (v : Int32) : Int32 := wIn v 0 4
set_option maxHeartbeats 4000000 in
set_option maxRecDepth 100000 in
theorem k_X5_isAge (l : Launch) (D : va_G) (tys : List (ClassId × FieldType)) (ws : va_W) (v : Int32) : Mi l yX5_isAge cX5_isAge 1 (some .boolean) { frames := 1, cells := 0, slots := 0, locals := 22 } D tys ws [.int v] ws (o_X5_isAge v) := by
  intro sz
  refine ent (by decide +kernel) (Nat.le_of_ble_eq_true rfl) ?_
  intro p e st m below meth c ls S hr hlk hnm w hsz hl
  have hl : lv_has ls 1 [(0, .int v)] := hl
  refine lv_iload_n S.1 S.2.1 dX5_isAge_0 rfl (lv_at hl 0 rfl) ?_
  refine lv_iconst (v := 0) S.1 S.2.1 dX5_isAge_1 (by decide) ?_
  refine lv_iconst (v := 4) S.1 S.2.1 dX5_isAge_2 (by decide) ?_
  refine x_Si (As := [.int v, .int 0, .int 4]) (rest := []) S w (goodS lk_RX5_113 lt_X5_in ln_RX5 lc_X5_in) hd_X5_in (k_X5_in l _ _ ws v 0 4) rfl ⟨(Nat.le_of_ble_eq_true rfl), (Nat.le_of_ble_eq_true rfl)⟩ ⟨rfl, rfl⟩ hl.1 rfl (Nat.le_of_ble_eq_true rfl) ⟨Nat.zero_le _, Nat.zero_le _⟩ dX5_isAge_3 (fun H locs (w : Wd D tys (va_A _ _) _ _ (ws) H locs) => ?_)
  exact x_retz S w hr hlk dX5_isAge_6 (wIn_b _ _ _) (show wIn v 0 4 = o_X5_isAge v from by simp only [o_X5_isAge]) (show ws = ws from rfl)
def o_X5_size (v : Int32) : Int32 := if 0 ≤ v then v else -v
set_option maxHeartbeats 4000000 in
set_option maxRecDepth 100000 in
theorem k_X5_size (l : Launch) (D : va_G) (tys : List (ClassId × FieldType)) (ws : va_W) (v : Int32) : Mi l yX5_size cX5_size 1 (some .int) { frames := 0, cells := 0, slots := 0, locals := 0 } D tys ws [.int v] ws (o_X5_size v) := by
  intro sz
  refine ent (by decide +kernel) (Nat.le_of_ble_eq_true rfl) ?_
  intro p e st m below meth c ls S hr hlk hnm w hsz hl
  have hl : lv_has ls 1 [(0, .int v)] := hl
  refine lv_iload_n S.1 S.2.1 dX5_size_0 rfl (lv_at hl 0 rfl) ?_
  refine lv_if_ge (tgt := 9) S.1 S.2.1 dX5_size_1 (by decide) (fun (c_1 : 0 ≤ v) => ?_) (fun (c_1 : ¬ (0 ≤ v)) => ?_)
  · refine lv_iload_n S.1 S.2.1 dX5_size_9 rfl (lv_at hl 0 rfl) ?_
    exact x_reti S w hr hlk dX5_size_10 (show v = o_X5_size v from by simp only [o_X5_size, if_pos c_1]) (show ws = ws from rfl)
  · refine lv_iload_n S.1 S.2.1 dX5_size_4 rfl (lv_at hl 0 rfl) ?_
    refine lv_ineg S.1 S.2.1 dX5_size_5 ?_
    refine lv_goto (tgt := 10) S.1 S.2.1 dX5_size_6 (by decide) ?_
    exact x_reti S w hr hlk dX5_size_10 (show -v = o_X5_size v from by simp only [o_X5_size, if_neg c_1]) (show ws = ws from rfl)
def o_X5_down (x : Int64) (y : Int64) : Int64 := if ((x / y) * y) ≤ x then x / y else (x / y) - 1
set_option maxHeartbeats 4000000 in
set_option maxRecDepth 100000 in
theorem k_X5_down (l : Launch) (D : va_G) (tys : List (ClassId × FieldType)) (ws : va_W) (x : Int64) (y : Int64) (hy : ¬ y = 0) : Ml l yX5_down cX5_down 6 (some .long) { frames := 0, cells := 0, slots := 0, locals := 0 } D tys ws [.long x, .long y] ws (o_X5_down x y) := by
  intro sz
  refine ent (by decide +kernel) (Nat.le_of_ble_eq_true rfl) ?_
  intro p e st m below meth c ls S hr hlk hnm w hsz hl
  have hl : lv_has ls 6 [(0, .long x), (2, .long y)] := hl
  refine lv_lload_n S.1 S.2.1 dX5_down_0 rfl (lv_at hl 0 rfl) ?_
  refine lv_lload_n S.1 S.2.1 dX5_down_1 rfl (lv_at hl 1 rfl) ?_
  refine lv_ldiv S.1 S.2.1 dX5_down_2 (hy) ?_
  refine lv_lstore (lv' := [(4, .long (x / y)), (0, .long x), (2, .long y)]) S.1 S.2.1 dX5_down_3 hl (by decide) rfl (fun ls hl => ?_)
  refine lv_lload S.1 S.2.1 dX5_down_5 (lv_at hl 0 rfl) ?_
  refine lv_lload_n S.1 S.2.1 dX5_down_7 rfl (lv_at hl 2 rfl) ?_
  refine lv_lmul S.1 S.2.1 dX5_down_8 ?_
  refine lv_lload_n S.1 S.2.1 dX5_down_9 rfl (lv_at hl 1 rfl) ?_
  refine x_lif_le (tgt := 21) S.1 S.2.1 dX5_down_10 dX5_down_11 (by decide) (fun (c_1 : ((x / y) * y) ≤ x) => ?_) (fun (c_1 : ¬ (((x / y) * y) ≤ x)) => ?_)
  · refine lv_lload S.1 S.2.1 dX5_down_21 (lv_at hl 0 rfl) ?_
    exact x_retl S w hr hlk dX5_down_23 (show x / y = o_X5_down x y from by simp only [o_X5_down, if_pos c_1]) (show ws = ws from rfl)
  · refine lv_lload S.1 S.2.1 dX5_down_14 (lv_at hl 0 rfl) ?_
    refine lv_lconst (v := 1) S.1 S.2.1 dX5_down_16 (by decide) ?_
    refine lv_lsub S.1 S.2.1 dX5_down_17 ?_
    refine lv_goto (tgt := 23) S.1 S.2.1 dX5_down_18 (by decide) ?_
    exact x_retl S w hr hlk dX5_down_23 (show (x / y) - 1 = o_X5_down x y from by simp only [o_X5_down, if_neg c_1]) (show ws = ws from rfl)
def o_X5_kept (v : Int64) (q : Int32) : Int32 := if v ≤ (Int32.toInt64 q) then if (Int32.toInt64 (-q)) ≤ v then Int64.toInt32 v else -q else q
set_option maxHeartbeats 4000000 in
set_option maxRecDepth 100000 in
theorem k_X5_kept (l : Launch) (D : va_G) (tys : List (ClassId × FieldType)) (ws : va_W) (v : Int64) (q : Int32) : Mi l yX5_kept cX5_kept 3 (some .int) { frames := 0, cells := 0, slots := 0, locals := 0 } D tys ws [.long v, .int q] ws (o_X5_kept v q) := by
  intro sz
  refine ent (by decide +kernel) (Nat.le_of_ble_eq_true rfl) ?_
  intro p e st m below meth c ls S hr hlk hnm w hsz hl
  have hl : lv_has ls 3 [(0, .long v), (2, .int q)] := hl
  refine lv_lload_n S.1 S.2.1 dX5_kept_0 rfl (lv_at hl 0 rfl) ?_
  refine lv_iload_n S.1 S.2.1 dX5_kept_1 rfl (lv_at hl 1 rfl) ?_
  refine lv_i2l S.1 S.2.1 dX5_kept_2 rfl ?_
  refine x_lif_le (tgt := 11) S.1 S.2.1 dX5_kept_3 dX5_kept_4 (by decide) (fun (c_1 : v ≤ (Int32.toInt64 q)) => ?_) (fun (c_1 : ¬ (v ≤ (Int32.toInt64 q))) => ?_)
  · refine lv_lload_n S.1 S.2.1 dX5_kept_11 rfl (lv_at hl 0 rfl) ?_
    refine lv_iload_n S.1 S.2.1 dX5_kept_12 rfl (lv_at hl 1 rfl) ?_
    refine lv_ineg S.1 S.2.1 dX5_kept_13 ?_
    refine lv_i2l S.1 S.2.1 dX5_kept_14 rfl ?_
    refine x_lif_ge (tgt := 24) S.1 S.2.1 dX5_kept_15 dX5_kept_16 (by decide) (fun (c_2 : (Int32.toInt64 (-q)) ≤ v) => ?_) (fun (c_2 : ¬ ((Int32.toInt64 (-q)) ≤ v)) => ?_)
    · refine lv_lload_n S.1 S.2.1 dX5_kept_24 rfl (lv_at hl 0 rfl) ?_
      refine lv_l2i S.1 S.2.1 dX5_kept_25 rfl ?_
      exact x_reti S w hr hlk dX5_kept_26 (show Int64.toInt32 v = o_X5_kept v q from by simp only [o_X5_kept, if_pos c_1, if_pos c_2]) (show ws = ws from rfl)
    · refine lv_iload_n S.1 S.2.1 dX5_kept_19 rfl (lv_at hl 1 rfl) ?_
      refine lv_ineg S.1 S.2.1 dX5_kept_20 ?_
      refine lv_goto (tgt := 26) S.1 S.2.1 dX5_kept_21 (by decide) ?_
      exact x_reti S w hr hlk dX5_kept_26 (show -q = o_X5_kept v q from by simp only [o_X5_kept, if_pos c_1, if_neg c_2]) (show ws = ws from rfl)
  · refine lv_iload_n S.1 S.2.1 dX5_kept_7 rfl (lv_at hl 1 rfl) ?_
    refine lv_goto (tgt := 26) S.1 S.2.1 dX5_kept_8 (by decide) ?_
    exact x_reti S w hr hlk dX5_kept_26 (show q = o_X5_kept v q from by simp only [o_X5_kept, if_neg c_1]) (show ws = ws from rfl)
def o_X5_noSample (s : Nat → Int32) (f : Nat → Nat → Int32) (k : Int32) : Int32 := noS s k
set_option maxHeartbeats 4000000 in
set_option maxRecDepth 100000 in
theorem k_X5_noSample (l : Launch) (D : va_G) (cI cO : ClassId) (a : Nat → Nat) (R : va_W) (s : Nat → Int32) (f : Nat → Nat → Int32) (k : Int32) : Mi l yX5_noSample cX5_noSample 2 (some .boolean) { frames := 1, cells := 0, slots := 0, locals := 22 } D (kT cI cO) (mW cI cO a s f R) [.ref (a 0), .int k] (mW cI cO a s f R) (o_X5_noSample s f k) := by
  intro sz
  refine ent (by decide +kernel) (Nat.le_of_ble_eq_true rfl) ?_
  intro p e st m below meth c ls S hr hlk hnm w hsz hl
  have hl : lv_has ls 2 [(0, .ref (a 0)), (1, .int k)] := hl
  refine lv_iload_n S.1 S.2.1 dX5_noSample_0 rfl (lv_at hl 1 rfl) ?_
  refine lv_iconst (v := 0) S.1 S.2.1 dX5_noSample_1 (by decide) ?_
  refine lv_aload_n S.1 S.2.1 dX5_noSample_2 rfl (lv_at hl 0 rfl) ?_
  refine mg_0 S w lk_RX5_47 dX5_noSample_3 ?_
  refine lv_iconst (v := 1) S.1 S.2.1 dX5_noSample_6 (by decide) ?_
  refine lv_isub S.1 S.2.1 dX5_noSample_7 ?_
  refine x_Si (As := [.int k, .int 0, .int ((s 0) - 1)]) (rest := []) S w (goodS lk_RX5_113 lt_X5_in ln_RX5 lc_X5_in) hd_X5_in (k_X5_in l _ _ (mW cI cO a s f R) k 0 ((s 0) - 1)) rfl ⟨(Nat.le_of_ble_eq_true rfl), (Nat.le_of_ble_eq_true rfl)⟩ ⟨rfl, rfl⟩ hl.1 rfl (Nat.le_of_ble_eq_true rfl) ⟨Nat.zero_le _, Nat.zero_le _⟩ dX5_noSample_8 (fun H locs (w : Wd D (kT cI cO) (va_A _ _) _ _ (mW cI cO a s f R) H locs) => ?_)
  refine lv_if_ne (tgt := 18) S.1 S.2.1 dX5_noSample_11 (by decide) (fun (c_1 : ¬ (wIn k 0 ((s 0) - 1)) = 0) => ?_) (fun (c_1 : (wIn k 0 ((s 0) - 1)) = 0) => ?_)
  · refine lv_iconst (v := 0) S.1 S.2.1 dX5_noSample_18 (by decide) ?_
    exact x_retz S w hr hlk dX5_noSample_19 (Or.inl rfl) (show 0 = o_X5_noSample s f k from by simp only [o_X5_noSample, noS, if_neg c_1]) (show mW cI cO a s f R = mW cI cO a s f R from rfl)
  · refine lv_iconst (v := 1) S.1 S.2.1 dX5_noSample_14 (by decide) ?_
    refine lv_goto (tgt := 19) S.1 S.2.1 dX5_noSample_15 (by decide) ?_
    exact x_retz S w hr hlk dX5_noSample_19 (Or.inr rfl) (show 1 = o_X5_noSample s f k from by simp only [o_X5_noSample, noS, if_pos c_1]) (show mW cI cO a s f R = mW cI cO a s f R from rfl)
def o_X5_setReference (s : Nat → Int32) (f : Nat → Nat → Int32) (N : Nat) (k : Int32) (v : Int32) : Int32 × (Nat → Nat → Int32) := if (noS s k) = 0 then if (wIn v (-1000000) 1000000) = 0 then ((-2000000001), f) else ((f 0) (Int32.toNatClampNeg k), va_up f 0 (upd (f 0) (Int32.toNatClampNeg k) v)) else ((-2000000001), f)
set_option maxHeartbeats 4000000 in
set_option maxRecDepth 100000 in
theorem k_X5_setReference (l : Launch) (D : va_G) (cI cO : ClassId) (a : Nat → Nat) (R : va_W) (s : Nat → Int32) (f : Nat → Nat → Int32) (N : Nat) (k : Int32) (v : Int32) (hN : s 0 = nI N) (h4 : 4 ≤ N) (h48 : N ≤ 48) : Mi l yX5_setReference cX5_setReference 4 (some .int) { frames := 2, cells := 0, slots := 0, locals := 43 } D (kT cI cO) (mW cI cO a s f R) [.ref (a 0), .int k, .int v] (mW cI cO a s (o_X5_setReference s f N k v).2 R) (o_X5_setReference s f N k v).1 := by
  intro sz
  refine ent (by decide +kernel) (Nat.le_of_ble_eq_true rfl) ?_
  intro p e st m below meth c ls S hr hlk hnm w hsz hl
  have hl : lv_has ls 4 [(0, .ref (a 0)), (1, .int k), (2, .int v)] := hl
  refine lv_aload_n S.1 S.2.1 dX5_setReference_0 rfl (lv_at hl 0 rfl) ?_
  refine lv_iload_n S.1 S.2.1 dX5_setReference_1 rfl (lv_at hl 1 rfl) ?_
  refine x_Vi (As := [.int k]) (rest := []) S w (goodV lk_RX5_118 li_X5_noSample ls_X5_noSample ln_RX5 lc_X5_noSample) hV_X5_noSample (k_X5_noSample l D cI cO a R s f k) rfl 0 5 rfl rfl mc_0 ⟨(Nat.le_of_ble_eq_true rfl), (Nat.le_of_ble_eq_true rfl)⟩ ⟨rfl, rfl⟩ hl.1 rfl (Nat.le_of_ble_eq_true rfl) ⟨Nat.zero_le _, Nat.zero_le _⟩ dX5_setReference_2 (fun H locs (w : Wd D (kT cI cO) (va_A _ _) _ _ (mW cI cO a s f R) H locs) => ?_)
  refine x_eqi (x := o_X5_noSample s f k) (y := noS s k) rfl ?_
  refine lv_if_ne (tgt := 19) S.1 S.2.1 dX5_setReference_5 (by decide) (fun (c_1 : ¬ (noS s k) = 0) => ?_) (fun (c_1 : (noS s k) = 0) => ?_)
  · refine x_ldc S lk_RX5_117 dX5_setReference_19 ?_
    exact x_reti S w hr hlk dX5_setReference_21 (show (-2000000001) = (o_X5_setReference s f N k v).1 from by simp only [o_X5_setReference, if_neg c_1]) (show mW cI cO a s f R = mW cI cO a s (o_X5_setReference s f N k v).2 R from by simp only [o_X5_setReference, if_neg c_1])
  · have hj := noS_j hN h4 h48 c_1
    refine lv_iload_n S.1 S.2.1 dX5_setReference_8 rfl (lv_at hl 2 rfl) ?_
    refine x_ldc S lk_RX5_122 dX5_setReference_9 ?_
    refine x_ldc S lk_RX5_63 dX5_setReference_11 ?_
    refine x_Si (As := [.int v, .int (-1000000), .int 1000000]) (rest := []) S w (goodS lk_RX5_113 lt_X5_in ln_RX5 lc_X5_in) hd_X5_in (k_X5_in l _ _ (mW cI cO a s f R) v (-1000000) 1000000) rfl ⟨(Nat.le_of_ble_eq_true rfl), (Nat.le_of_ble_eq_true rfl)⟩ ⟨rfl, rfl⟩ hl.1 rfl (Nat.le_of_ble_eq_true rfl) ⟨Nat.zero_le _, Nat.zero_le _⟩ dX5_setReference_13 (fun H locs (w : Wd D (kT cI cO) (va_A _ _) _ _ (mW cI cO a s f R) H locs) => ?_)
    refine lv_if_ne (tgt := 22) S.1 S.2.1 dX5_setReference_16 (by decide) (fun (c_2 : ¬ (wIn v (-1000000) 1000000) = 0) => ?_) (fun (c_2 : (wIn v (-1000000) 1000000) = 0) => ?_)
    · refine lv_aload_n S.1 S.2.1 dX5_setReference_22 rfl (lv_at hl 0 rfl) ?_
      refine mr_1 S w lk_RX5_7 dX5_setReference_23 ?_
      refine lv_iload_n S.1 S.2.1 dX5_setReference_26 rfl (lv_at hl 1 rfl) ?_
      refine x_iald S w 1 0 (g := f 0) (v := (f 0) (Int32.toNatClampNeg k)) (Int32.toNatClampNeg k) (by have := hj.1; omega) (hj.2) (Nat.le_of_ble_eq_true rfl) (mc_1) rfl (rfl) dX5_setReference_27 ?_
      refine lv_istore_n (lv' := [(3, .int ((f 0) (Int32.toNatClampNeg k))), (0, .ref (a 0)), (1, .int k), (2, .int v)]) S.1 S.2.1 dX5_setReference_28 rfl hl (by decide) rfl (fun ls hl => ?_)
      refine lv_aload_n S.1 S.2.1 dX5_setReference_29 rfl (lv_at hl 1 rfl) ?_
      refine mr_1 S w lk_RX5_7 dX5_setReference_30 ?_
      refine lv_iload_n S.1 S.2.1 dX5_setReference_33 rfl (lv_at hl 2 rfl) ?_
      refine lv_iload_n S.1 S.2.1 dX5_setReference_34 rfl (lv_at hl 3 rfl) ?_
      refine x_iast S w 1 0 (g := f 0) (Int32.toNatClampNeg k) (by have := hj.1; omega) (hj.2) (Nat.le_of_ble_eq_true rfl) (mc_1) rfl (ms_0) dX5_setReference_35 (fun H locs (w : Wd D (kT cI cO) (va_A _ _) _ _ (mW cI cO a s (va_up f 0 (upd (f 0) (Int32.toNatClampNeg k) v)) R) H locs) => ?_)
      refine lv_iload_n S.1 S.2.1 dX5_setReference_36 rfl (lv_at hl 0 rfl) ?_
      exact x_reti S w hr hlk dX5_setReference_37 (show (f 0) (Int32.toNatClampNeg k) = (o_X5_setReference s f N k v).1 from by simp only [o_X5_setReference, if_pos c_1, if_neg c_2]) (show mW cI cO a s (va_up f 0 (upd (f 0) (Int32.toNatClampNeg k) v)) R = mW cI cO a s (o_X5_setReference s f N k v).2 R from by simp only [o_X5_setReference, if_pos c_1, if_neg c_2])
    · refine x_ldc S lk_RX5_117 dX5_setReference_19 ?_
      exact x_reti S w hr hlk dX5_setReference_21 (show (-2000000001) = (o_X5_setReference s f N k v).1 from by simp only [o_X5_setReference, if_pos c_1, if_pos c_2]) (show mW cI cO a s f R = mW cI cO a s (o_X5_setReference s f N k v).2 R from by simp only [o_X5_setReference, if_pos c_1, if_pos c_2])
def o_X5_setGain (s : Nat → Int32) (f : Nat → Nat → Int32) (g : Int32) (d : Int32) : Int32 × (Nat → Int32) := if (wIn g 0 2000) = 0 then ((-2000000001), s) else if (wIn d 0 8) = 0 then ((-2000000001), s) else if g = (s 1) then if d = (s 2) then (0, upd (upd s 1 g) 2 d) else (1, upd (upd s 1 g) 2 d) else (1, upd (upd s 1 g) 2 d)
set_option maxHeartbeats 4000000 in
set_option maxRecDepth 100000 in
theorem k_X5_setGain (l : Launch) (D : va_G) (cI cO : ClassId) (a : Nat → Nat) (R : va_W) (s : Nat → Int32) (f : Nat → Nat → Int32) (g : Int32) (d : Int32) : Mi l yX5_setGain cX5_setGain 4 (some .int) { frames := 1, cells := 0, slots := 0, locals := 22 } D (kT cI cO) (mW cI cO a s f R) [.ref (a 0), .int g, .int d] (mW cI cO a (o_X5_setGain s f g d).2 f R) (o_X5_setGain s f g d).1 := by
  intro sz
  refine ent (by decide +kernel) (Nat.le_of_ble_eq_true rfl) ?_
  intro p e st m below meth c ls S hr hlk hnm w hsz hl
  have hl : lv_has ls 4 [(0, .ref (a 0)), (1, .int g), (2, .int d)] := hl
  refine lv_iload_n S.1 S.2.1 dX5_setGain_0 rfl (lv_at hl 1 rfl) ?_
  refine lv_iconst (v := 0) S.1 S.2.1 dX5_setGain_1 (by decide) ?_
  refine lv_sipush (v := 2000) S.1 S.2.1 dX5_setGain_2 (by decide) ?_
  refine x_Si (As := [.int g, .int 0, .int 2000]) (rest := []) S w (goodS lk_RX5_113 lt_X5_in ln_RX5 lc_X5_in) hd_X5_in (k_X5_in l _ _ (mW cI cO a s f R) g 0 2000) rfl ⟨(Nat.le_of_ble_eq_true rfl), (Nat.le_of_ble_eq_true rfl)⟩ ⟨rfl, rfl⟩ hl.1 rfl (Nat.le_of_ble_eq_true rfl) ⟨Nat.zero_le _, Nat.zero_le _⟩ dX5_setGain_5 (fun H locs (w : Wd D (kT cI cO) (va_A _ _) _ _ (mW cI cO a s f R) H locs) => ?_)
  refine lv_if_eq (tgt := 21) S.1 S.2.1 dX5_setGain_8 (by decide) (fun (c_1 : (wIn g 0 2000) = 0) => ?_) (fun (c_1 : ¬ ((wIn g 0 2000) = 0)) => ?_)
  · refine x_ldc S lk_RX5_117 dX5_setGain_21 ?_
    exact x_reti S w hr hlk dX5_setGain_23 (show (-2000000001) = (o_X5_setGain s f g d).1 from by simp only [o_X5_setGain, if_pos c_1]) (show mW cI cO a s f R = mW cI cO a (o_X5_setGain s f g d).2 f R from by simp only [o_X5_setGain, if_pos c_1])
  · refine lv_iload_n S.1 S.2.1 dX5_setGain_11 rfl (lv_at hl 2 rfl) ?_
    refine lv_iconst (v := 0) S.1 S.2.1 dX5_setGain_12 (by decide) ?_
    refine lv_bipush (v := 8) S.1 S.2.1 dX5_setGain_13 (by decide) ?_
    refine x_Si (As := [.int d, .int 0, .int 8]) (rest := []) S w (goodS lk_RX5_113 lt_X5_in ln_RX5 lc_X5_in) hd_X5_in (k_X5_in l _ _ (mW cI cO a s f R) d 0 8) rfl ⟨(Nat.le_of_ble_eq_true rfl), (Nat.le_of_ble_eq_true rfl)⟩ ⟨rfl, rfl⟩ hl.1 rfl (Nat.le_of_ble_eq_true rfl) ⟨Nat.zero_le _, Nat.zero_le _⟩ dX5_setGain_15 (fun H locs (w : Wd D (kT cI cO) (va_A _ _) _ _ (mW cI cO a s f R) H locs) => ?_)
    refine lv_if_ne (tgt := 24) S.1 S.2.1 dX5_setGain_18 (by decide) (fun (c_2 : ¬ (wIn d 0 8) = 0) => ?_) (fun (c_2 : (wIn d 0 8) = 0) => ?_)
    · refine lv_iload_n S.1 S.2.1 dX5_setGain_24 rfl (lv_at hl 1 rfl) ?_
      refine lv_aload_n S.1 S.2.1 dX5_setGain_25 rfl (lv_at hl 0 rfl) ?_
      refine mg_1 S w lk_RX5_51 dX5_setGain_26 ?_
      refine lv_icmp_ne (tgt := 40) S.1 S.2.1 dX5_setGain_29 (by decide) (fun (c_3 : ¬ g = (s 1)) => ?_) (fun (c_3 : g = (s 1)) => ?_)
      · refine lv_iconst (v := 1) S.1 S.2.1 dX5_setGain_40 (by decide) ?_
        refine lv_goto (tgt := 45) S.1 S.2.1 dX5_setGain_41 (by decide) ?_
        refine lv_istore_n (lv' := [(3, .int 1), (0, .ref (a 0)), (1, .int g), (2, .int d)]) S.1 S.2.1 dX5_setGain_45 rfl hl (by decide) rfl (fun ls hl => ?_)
        refine lv_aload_n S.1 S.2.1 dX5_setGain_46 rfl (lv_at hl 1 rfl) ?_
        refine lv_iload_n S.1 S.2.1 dX5_setGain_47 rfl (lv_at hl 2 rfl) ?_
        refine mp_1 S w lk_RX5_51 dX5_setGain_48 (fun H locs (w : Wd D (kT cI cO) (va_A _ _) _ _ (mW cI cO a (upd s 1 g) f R) H locs) => ?_)
        refine lv_aload_n S.1 S.2.1 dX5_setGain_51 rfl (lv_at hl 1 rfl) ?_
        refine lv_iload_n S.1 S.2.1 dX5_setGain_52 rfl (lv_at hl 3 rfl) ?_
        refine mp_2 S w lk_RX5_54 dX5_setGain_53 (fun H locs (w : Wd D (kT cI cO) (va_A _ _) _ _ (mW cI cO a (upd (upd s 1 g) 2 d) f R) H locs) => ?_)
        refine lv_iload_n S.1 S.2.1 dX5_setGain_56 rfl (lv_at hl 0 rfl) ?_
        exact x_reti S w hr hlk dX5_setGain_57 (show 1 = (o_X5_setGain s f g d).1 from by simp only [o_X5_setGain, if_neg c_1, if_neg c_2, if_neg c_3]) (show mW cI cO a (upd (upd s 1 g) 2 d) f R = mW cI cO a (o_X5_setGain s f g d).2 f R from by simp only [o_X5_setGain, if_neg c_1, if_neg c_2, if_neg c_3])
      · refine lv_iload_n S.1 S.2.1 dX5_setGain_32 rfl (lv_at hl 2 rfl) ?_
        refine lv_aload_n S.1 S.2.1 dX5_setGain_33 rfl (lv_at hl 0 rfl) ?_
        refine mg_2 S w lk_RX5_54 dX5_setGain_34 ?_
        refine lv_icmp_eq (tgt := 44) S.1 S.2.1 dX5_setGain_37 (by decide) (fun (c_4 : d = (s 2)) => ?_) (fun (c_4 : ¬ (d = (s 2))) => ?_)
        · refine lv_iconst (v := 0) S.1 S.2.1 dX5_setGain_44 (by decide) ?_
          refine lv_istore_n (lv' := [(3, .int 0), (0, .ref (a 0)), (1, .int g), (2, .int d)]) S.1 S.2.1 dX5_setGain_45 rfl hl (by decide) rfl (fun ls hl => ?_)
          refine lv_aload_n S.1 S.2.1 dX5_setGain_46 rfl (lv_at hl 1 rfl) ?_
          refine lv_iload_n S.1 S.2.1 dX5_setGain_47 rfl (lv_at hl 2 rfl) ?_
          refine mp_1 S w lk_RX5_51 dX5_setGain_48 (fun H locs (w : Wd D (kT cI cO) (va_A _ _) _ _ (mW cI cO a (upd s 1 g) f R) H locs) => ?_)
          refine lv_aload_n S.1 S.2.1 dX5_setGain_51 rfl (lv_at hl 1 rfl) ?_
          refine lv_iload_n S.1 S.2.1 dX5_setGain_52 rfl (lv_at hl 3 rfl) ?_
          refine mp_2 S w lk_RX5_54 dX5_setGain_53 (fun H locs (w : Wd D (kT cI cO) (va_A _ _) _ _ (mW cI cO a (upd (upd s 1 g) 2 d) f R) H locs) => ?_)
          refine lv_iload_n S.1 S.2.1 dX5_setGain_56 rfl (lv_at hl 0 rfl) ?_
          exact x_reti S w hr hlk dX5_setGain_57 (show 0 = (o_X5_setGain s f g d).1 from by simp only [o_X5_setGain, if_neg c_1, if_neg c_2, if_pos c_3, if_pos c_4]) (show mW cI cO a (upd (upd s 1 g) 2 d) f R = mW cI cO a (o_X5_setGain s f g d).2 f R from by simp only [o_X5_setGain, if_neg c_1, if_neg c_2, if_pos c_3, if_pos c_4])
        · refine lv_iconst (v := 1) S.1 S.2.1 dX5_setGain_40 (by decide) ?_
          refine lv_goto (tgt := 45) S.1 S.2.1 dX5_setGain_41 (by decide) ?_
          refine lv_istore_n (lv' := [(3, .int 1), (0, .ref (a 0)), (1, .int g), (2, .int d)]) S.1 S.2.1 dX5_setGain_45 rfl hl (by decide) rfl (fun ls hl => ?_)
          refine lv_aload_n S.1 S.2.1 dX5_setGain_46 rfl (lv_at hl 1 rfl) ?_
          refine lv_iload_n S.1 S.2.1 dX5_setGain_47 rfl (lv_at hl 2 rfl) ?_
          refine mp_1 S w lk_RX5_51 dX5_setGain_48 (fun H locs (w : Wd D (kT cI cO) (va_A _ _) _ _ (mW cI cO a (upd s 1 g) f R) H locs) => ?_)
          refine lv_aload_n S.1 S.2.1 dX5_setGain_51 rfl (lv_at hl 1 rfl) ?_
          refine lv_iload_n S.1 S.2.1 dX5_setGain_52 rfl (lv_at hl 3 rfl) ?_
          refine mp_2 S w lk_RX5_54 dX5_setGain_53 (fun H locs (w : Wd D (kT cI cO) (va_A _ _) _ _ (mW cI cO a (upd (upd s 1 g) 2 d) f R) H locs) => ?_)
          refine lv_iload_n S.1 S.2.1 dX5_setGain_56 rfl (lv_at hl 0 rfl) ?_
          exact x_reti S w hr hlk dX5_setGain_57 (show 1 = (o_X5_setGain s f g d).1 from by simp only [o_X5_setGain, if_neg c_1, if_neg c_2, if_pos c_3, if_neg c_4]) (show mW cI cO a (upd (upd s 1 g) 2 d) f R = mW cI cO a (o_X5_setGain s f g d).2 f R from by simp only [o_X5_setGain, if_neg c_1, if_neg c_2, if_pos c_3, if_neg c_4])
    · refine x_ldc S lk_RX5_117 dX5_setGain_21 ?_
      exact x_reti S w hr hlk dX5_setGain_23 (show (-2000000001) = (o_X5_setGain s f g d).1 from by simp only [o_X5_setGain, if_neg c_1, if_pos c_2]) (show mW cI cO a s f R = mW cI cO a (o_X5_setGain s f g d).2 f R from by simp only [o_X5_setGain, if_neg c_1, if_pos c_2])
def o_X5_setSmoothing (s : Nat → Int32) (f : Nat → Nat → Int32) (g : Int32) (d : Int32) : Int32 × (Nat → Int32) := if (wIn g 0 333) = 0 then ((-2000000001), s) else if (wIn d 0 4) = 0 then ((-2000000001), s) else if g = (s 3) then if d = (s 4) then (0, upd (upd s 3 g) 4 d) else (1, upd (upd s 3 g) 4 d) else (1, upd (upd s 3 g) 4 d)
set_option maxHeartbeats 4000000 in
set_option maxRecDepth 100000 in
theorem k_X5_setSmoothing (l : Launch) (D : va_G) (cI cO : ClassId) (a : Nat → Nat) (R : va_W) (s : Nat → Int32) (f : Nat → Nat → Int32) (g : Int32) (d : Int32) : Mi l yX5_setSmoothing cX5_setSmoothing 4 (some .int) { frames := 1, cells := 0, slots := 0, locals := 22 } D (kT cI cO) (mW cI cO a s f R) [.ref (a 0), .int g, .int d] (mW cI cO a (o_X5_setSmoothing s f g d).2 f R) (o_X5_setSmoothing s f g d).1 := by
  intro sz
  refine ent (by decide +kernel) (Nat.le_of_ble_eq_true rfl) ?_
  intro p e st m below meth c ls S hr hlk hnm w hsz hl
  have hl : lv_has ls 4 [(0, .ref (a 0)), (1, .int g), (2, .int d)] := hl
  refine lv_iload_n S.1 S.2.1 dX5_setSmoothing_0 rfl (lv_at hl 1 rfl) ?_
  refine lv_iconst (v := 0) S.1 S.2.1 dX5_setSmoothing_1 (by decide) ?_
  refine lv_sipush (v := 333) S.1 S.2.1 dX5_setSmoothing_2 (by decide) ?_
  refine x_Si (As := [.int g, .int 0, .int 333]) (rest := []) S w (goodS lk_RX5_113 lt_X5_in ln_RX5 lc_X5_in) hd_X5_in (k_X5_in l _ _ (mW cI cO a s f R) g 0 333) rfl ⟨(Nat.le_of_ble_eq_true rfl), (Nat.le_of_ble_eq_true rfl)⟩ ⟨rfl, rfl⟩ hl.1 rfl (Nat.le_of_ble_eq_true rfl) ⟨Nat.zero_le _, Nat.zero_le _⟩ dX5_setSmoothing_5 (fun H locs (w : Wd D (kT cI cO) (va_A _ _) _ _ (mW cI cO a s f R) H locs) => ?_)
  refine lv_if_eq (tgt := 20) S.1 S.2.1 dX5_setSmoothing_8 (by decide) (fun (c_1 : (wIn g 0 333) = 0) => ?_) (fun (c_1 : ¬ ((wIn g 0 333) = 0)) => ?_)
  · refine x_ldc S lk_RX5_117 dX5_setSmoothing_20 ?_
    exact x_reti S w hr hlk dX5_setSmoothing_22 (show (-2000000001) = (o_X5_setSmoothing s f g d).1 from by simp only [o_X5_setSmoothing, if_pos c_1]) (show mW cI cO a s f R = mW cI cO a (o_X5_setSmoothing s f g d).2 f R from by simp only [o_X5_setSmoothing, if_pos c_1])
  · refine lv_iload_n S.1 S.2.1 dX5_setSmoothing_11 rfl (lv_at hl 2 rfl) ?_
    refine lv_iconst (v := 0) S.1 S.2.1 dX5_setSmoothing_12 (by decide) ?_
    refine lv_iconst (v := 4) S.1 S.2.1 dX5_setSmoothing_13 (by decide) ?_
    refine x_Si (As := [.int d, .int 0, .int 4]) (rest := []) S w (goodS lk_RX5_113 lt_X5_in ln_RX5 lc_X5_in) hd_X5_in (k_X5_in l _ _ (mW cI cO a s f R) d 0 4) rfl ⟨(Nat.le_of_ble_eq_true rfl), (Nat.le_of_ble_eq_true rfl)⟩ ⟨rfl, rfl⟩ hl.1 rfl (Nat.le_of_ble_eq_true rfl) ⟨Nat.zero_le _, Nat.zero_le _⟩ dX5_setSmoothing_14 (fun H locs (w : Wd D (kT cI cO) (va_A _ _) _ _ (mW cI cO a s f R) H locs) => ?_)
    refine lv_if_ne (tgt := 23) S.1 S.2.1 dX5_setSmoothing_17 (by decide) (fun (c_2 : ¬ (wIn d 0 4) = 0) => ?_) (fun (c_2 : (wIn d 0 4) = 0) => ?_)
    · refine lv_iload_n S.1 S.2.1 dX5_setSmoothing_23 rfl (lv_at hl 1 rfl) ?_
      refine lv_aload_n S.1 S.2.1 dX5_setSmoothing_24 rfl (lv_at hl 0 rfl) ?_
      refine mg_3 S w lk_RX5_57 dX5_setSmoothing_25 ?_
      refine lv_icmp_ne (tgt := 39) S.1 S.2.1 dX5_setSmoothing_28 (by decide) (fun (c_3 : ¬ g = (s 3)) => ?_) (fun (c_3 : g = (s 3)) => ?_)
      · refine lv_iconst (v := 1) S.1 S.2.1 dX5_setSmoothing_39 (by decide) ?_
        refine lv_goto (tgt := 44) S.1 S.2.1 dX5_setSmoothing_40 (by decide) ?_
        refine lv_istore_n (lv' := [(3, .int 1), (0, .ref (a 0)), (1, .int g), (2, .int d)]) S.1 S.2.1 dX5_setSmoothing_44 rfl hl (by decide) rfl (fun ls hl => ?_)
        refine lv_aload_n S.1 S.2.1 dX5_setSmoothing_45 rfl (lv_at hl 1 rfl) ?_
        refine lv_iload_n S.1 S.2.1 dX5_setSmoothing_46 rfl (lv_at hl 2 rfl) ?_
        refine mp_3 S w lk_RX5_57 dX5_setSmoothing_47 (fun H locs (w : Wd D (kT cI cO) (va_A _ _) _ _ (mW cI cO a (upd s 3 g) f R) H locs) => ?_)
        refine lv_aload_n S.1 S.2.1 dX5_setSmoothing_50 rfl (lv_at hl 1 rfl) ?_
        refine lv_iload_n S.1 S.2.1 dX5_setSmoothing_51 rfl (lv_at hl 3 rfl) ?_
        refine mp_4 S w lk_RX5_60 dX5_setSmoothing_52 (fun H locs (w : Wd D (kT cI cO) (va_A _ _) _ _ (mW cI cO a (upd (upd s 3 g) 4 d) f R) H locs) => ?_)
        refine lv_iload_n S.1 S.2.1 dX5_setSmoothing_55 rfl (lv_at hl 0 rfl) ?_
        exact x_reti S w hr hlk dX5_setSmoothing_56 (show 1 = (o_X5_setSmoothing s f g d).1 from by simp only [o_X5_setSmoothing, if_neg c_1, if_neg c_2, if_neg c_3]) (show mW cI cO a (upd (upd s 3 g) 4 d) f R = mW cI cO a (o_X5_setSmoothing s f g d).2 f R from by simp only [o_X5_setSmoothing, if_neg c_1, if_neg c_2, if_neg c_3])
      · refine lv_iload_n S.1 S.2.1 dX5_setSmoothing_31 rfl (lv_at hl 2 rfl) ?_
        refine lv_aload_n S.1 S.2.1 dX5_setSmoothing_32 rfl (lv_at hl 0 rfl) ?_
        refine mg_4 S w lk_RX5_60 dX5_setSmoothing_33 ?_
        refine lv_icmp_eq (tgt := 43) S.1 S.2.1 dX5_setSmoothing_36 (by decide) (fun (c_4 : d = (s 4)) => ?_) (fun (c_4 : ¬ (d = (s 4))) => ?_)
        · refine lv_iconst (v := 0) S.1 S.2.1 dX5_setSmoothing_43 (by decide) ?_
          refine lv_istore_n (lv' := [(3, .int 0), (0, .ref (a 0)), (1, .int g), (2, .int d)]) S.1 S.2.1 dX5_setSmoothing_44 rfl hl (by decide) rfl (fun ls hl => ?_)
          refine lv_aload_n S.1 S.2.1 dX5_setSmoothing_45 rfl (lv_at hl 1 rfl) ?_
          refine lv_iload_n S.1 S.2.1 dX5_setSmoothing_46 rfl (lv_at hl 2 rfl) ?_
          refine mp_3 S w lk_RX5_57 dX5_setSmoothing_47 (fun H locs (w : Wd D (kT cI cO) (va_A _ _) _ _ (mW cI cO a (upd s 3 g) f R) H locs) => ?_)
          refine lv_aload_n S.1 S.2.1 dX5_setSmoothing_50 rfl (lv_at hl 1 rfl) ?_
          refine lv_iload_n S.1 S.2.1 dX5_setSmoothing_51 rfl (lv_at hl 3 rfl) ?_
          refine mp_4 S w lk_RX5_60 dX5_setSmoothing_52 (fun H locs (w : Wd D (kT cI cO) (va_A _ _) _ _ (mW cI cO a (upd (upd s 3 g) 4 d) f R) H locs) => ?_)
          refine lv_iload_n S.1 S.2.1 dX5_setSmoothing_55 rfl (lv_at hl 0 rfl) ?_
          exact x_reti S w hr hlk dX5_setSmoothing_56 (show 0 = (o_X5_setSmoothing s f g d).1 from by simp only [o_X5_setSmoothing, if_neg c_1, if_neg c_2, if_pos c_3, if_pos c_4]) (show mW cI cO a (upd (upd s 3 g) 4 d) f R = mW cI cO a (o_X5_setSmoothing s f g d).2 f R from by simp only [o_X5_setSmoothing, if_neg c_1, if_neg c_2, if_pos c_3, if_pos c_4])
        · refine lv_iconst (v := 1) S.1 S.2.1 dX5_setSmoothing_39 (by decide) ?_
          refine lv_goto (tgt := 44) S.1 S.2.1 dX5_setSmoothing_40 (by decide) ?_
          refine lv_istore_n (lv' := [(3, .int 1), (0, .ref (a 0)), (1, .int g), (2, .int d)]) S.1 S.2.1 dX5_setSmoothing_44 rfl hl (by decide) rfl (fun ls hl => ?_)
          refine lv_aload_n S.1 S.2.1 dX5_setSmoothing_45 rfl (lv_at hl 1 rfl) ?_
          refine lv_iload_n S.1 S.2.1 dX5_setSmoothing_46 rfl (lv_at hl 2 rfl) ?_
          refine mp_3 S w lk_RX5_57 dX5_setSmoothing_47 (fun H locs (w : Wd D (kT cI cO) (va_A _ _) _ _ (mW cI cO a (upd s 3 g) f R) H locs) => ?_)
          refine lv_aload_n S.1 S.2.1 dX5_setSmoothing_50 rfl (lv_at hl 1 rfl) ?_
          refine lv_iload_n S.1 S.2.1 dX5_setSmoothing_51 rfl (lv_at hl 3 rfl) ?_
          refine mp_4 S w lk_RX5_60 dX5_setSmoothing_52 (fun H locs (w : Wd D (kT cI cO) (va_A _ _) _ _ (mW cI cO a (upd (upd s 3 g) 4 d) f R) H locs) => ?_)
          refine lv_iload_n S.1 S.2.1 dX5_setSmoothing_55 rfl (lv_at hl 0 rfl) ?_
          exact x_reti S w hr hlk dX5_setSmoothing_56 (show 1 = (o_X5_setSmoothing s f g d).1 from by simp only [o_X5_setSmoothing, if_neg c_1, if_neg c_2, if_pos c_3, if_neg c_4]) (show mW cI cO a (upd (upd s 3 g) 4 d) f R = mW cI cO a (o_X5_setSmoothing s f g d).2 f R from by simp only [o_X5_setSmoothing, if_neg c_1, if_neg c_2, if_pos c_3, if_neg c_4])
    · refine x_ldc S lk_RX5_117 dX5_setSmoothing_20 ?_
      exact x_reti S w hr hlk dX5_setSmoothing_22 (show (-2000000001) = (o_X5_setSmoothing s f g d).1 from by simp only [o_X5_setSmoothing, if_neg c_1, if_pos c_2]) (show mW cI cO a s f R = mW cI cO a (o_X5_setSmoothing s f g d).2 f R from by simp only [o_X5_setSmoothing, if_neg c_1, if_pos c_2])
def o_X5_setLimits (s : Nat → Int32) (f : Nat → Nat → Int32) (g : Int32) (d : Int32) : Int32 × (Nat → Int32) := if (wIn g 1 1000000) = 0 then ((-2000000001), s) else if (wIn d 1 10) = 0 then ((-2000000001), s) else if g = (s 5) then if d = (s 6) then (0, upd (upd s 5 g) 6 d) else (1, upd (upd s 5 g) 6 d) else (1, upd (upd s 5 g) 6 d)
set_option maxHeartbeats 4000000 in
set_option maxRecDepth 100000 in
theorem k_X5_setLimits (l : Launch) (D : va_G) (cI cO : ClassId) (a : Nat → Nat) (R : va_W) (s : Nat → Int32) (f : Nat → Nat → Int32) (g : Int32) (d : Int32) : Mi l yX5_setLimits cX5_setLimits 4 (some .int) { frames := 1, cells := 0, slots := 0, locals := 22 } D (kT cI cO) (mW cI cO a s f R) [.ref (a 0), .int g, .int d] (mW cI cO a (o_X5_setLimits s f g d).2 f R) (o_X5_setLimits s f g d).1 := by
  intro sz
  refine ent (by decide +kernel) (Nat.le_of_ble_eq_true rfl) ?_
  intro p e st m below meth c ls S hr hlk hnm w hsz hl
  have hl : lv_has ls 4 [(0, .ref (a 0)), (1, .int g), (2, .int d)] := hl
  refine lv_iload_n S.1 S.2.1 dX5_setLimits_0 rfl (lv_at hl 1 rfl) ?_
  refine lv_iconst (v := 1) S.1 S.2.1 dX5_setLimits_1 (by decide) ?_
  refine x_ldc S lk_RX5_63 dX5_setLimits_2 ?_
  refine x_Si (As := [.int g, .int 1, .int 1000000]) (rest := []) S w (goodS lk_RX5_113 lt_X5_in ln_RX5 lc_X5_in) hd_X5_in (k_X5_in l _ _ (mW cI cO a s f R) g 1 1000000) rfl ⟨(Nat.le_of_ble_eq_true rfl), (Nat.le_of_ble_eq_true rfl)⟩ ⟨rfl, rfl⟩ hl.1 rfl (Nat.le_of_ble_eq_true rfl) ⟨Nat.zero_le _, Nat.zero_le _⟩ dX5_setLimits_4 (fun H locs (w : Wd D (kT cI cO) (va_A _ _) _ _ (mW cI cO a s f R) H locs) => ?_)
  refine lv_if_eq (tgt := 20) S.1 S.2.1 dX5_setLimits_7 (by decide) (fun (c_1 : (wIn g 1 1000000) = 0) => ?_) (fun (c_1 : ¬ ((wIn g 1 1000000) = 0)) => ?_)
  · refine x_ldc S lk_RX5_117 dX5_setLimits_20 ?_
    exact x_reti S w hr hlk dX5_setLimits_22 (show (-2000000001) = (o_X5_setLimits s f g d).1 from by simp only [o_X5_setLimits, if_pos c_1]) (show mW cI cO a s f R = mW cI cO a (o_X5_setLimits s f g d).2 f R from by simp only [o_X5_setLimits, if_pos c_1])
  · refine lv_iload_n S.1 S.2.1 dX5_setLimits_10 rfl (lv_at hl 2 rfl) ?_
    refine lv_iconst (v := 1) S.1 S.2.1 dX5_setLimits_11 (by decide) ?_
    refine lv_bipush (v := 10) S.1 S.2.1 dX5_setLimits_12 (by decide) ?_
    refine x_Si (As := [.int d, .int 1, .int 10]) (rest := []) S w (goodS lk_RX5_113 lt_X5_in ln_RX5 lc_X5_in) hd_X5_in (k_X5_in l _ _ (mW cI cO a s f R) d 1 10) rfl ⟨(Nat.le_of_ble_eq_true rfl), (Nat.le_of_ble_eq_true rfl)⟩ ⟨rfl, rfl⟩ hl.1 rfl (Nat.le_of_ble_eq_true rfl) ⟨Nat.zero_le _, Nat.zero_le _⟩ dX5_setLimits_14 (fun H locs (w : Wd D (kT cI cO) (va_A _ _) _ _ (mW cI cO a s f R) H locs) => ?_)
    refine lv_if_ne (tgt := 23) S.1 S.2.1 dX5_setLimits_17 (by decide) (fun (c_2 : ¬ (wIn d 1 10) = 0) => ?_) (fun (c_2 : (wIn d 1 10) = 0) => ?_)
    · refine lv_iload_n S.1 S.2.1 dX5_setLimits_23 rfl (lv_at hl 1 rfl) ?_
      refine lv_aload_n S.1 S.2.1 dX5_setLimits_24 rfl (lv_at hl 0 rfl) ?_
      refine mg_5 S w lk_RX5_64 dX5_setLimits_25 ?_
      refine lv_icmp_ne (tgt := 39) S.1 S.2.1 dX5_setLimits_28 (by decide) (fun (c_3 : ¬ g = (s 5)) => ?_) (fun (c_3 : g = (s 5)) => ?_)
      · refine lv_iconst (v := 1) S.1 S.2.1 dX5_setLimits_39 (by decide) ?_
        refine lv_goto (tgt := 44) S.1 S.2.1 dX5_setLimits_40 (by decide) ?_
        refine lv_istore_n (lv' := [(3, .int 1), (0, .ref (a 0)), (1, .int g), (2, .int d)]) S.1 S.2.1 dX5_setLimits_44 rfl hl (by decide) rfl (fun ls hl => ?_)
        refine lv_aload_n S.1 S.2.1 dX5_setLimits_45 rfl (lv_at hl 1 rfl) ?_
        refine lv_iload_n S.1 S.2.1 dX5_setLimits_46 rfl (lv_at hl 2 rfl) ?_
        refine mp_5 S w lk_RX5_64 dX5_setLimits_47 (fun H locs (w : Wd D (kT cI cO) (va_A _ _) _ _ (mW cI cO a (upd s 5 g) f R) H locs) => ?_)
        refine lv_aload_n S.1 S.2.1 dX5_setLimits_50 rfl (lv_at hl 1 rfl) ?_
        refine lv_iload_n S.1 S.2.1 dX5_setLimits_51 rfl (lv_at hl 3 rfl) ?_
        refine mp_6 S w lk_RX5_67 dX5_setLimits_52 (fun H locs (w : Wd D (kT cI cO) (va_A _ _) _ _ (mW cI cO a (upd (upd s 5 g) 6 d) f R) H locs) => ?_)
        refine lv_iload_n S.1 S.2.1 dX5_setLimits_55 rfl (lv_at hl 0 rfl) ?_
        exact x_reti S w hr hlk dX5_setLimits_56 (show 1 = (o_X5_setLimits s f g d).1 from by simp only [o_X5_setLimits, if_neg c_1, if_neg c_2, if_neg c_3]) (show mW cI cO a (upd (upd s 5 g) 6 d) f R = mW cI cO a (o_X5_setLimits s f g d).2 f R from by simp only [o_X5_setLimits, if_neg c_1, if_neg c_2, if_neg c_3])
      · refine lv_iload_n S.1 S.2.1 dX5_setLimits_31 rfl (lv_at hl 2 rfl) ?_
        refine lv_aload_n S.1 S.2.1 dX5_setLimits_32 rfl (lv_at hl 0 rfl) ?_
        refine mg_6 S w lk_RX5_67 dX5_setLimits_33 ?_
        refine lv_icmp_eq (tgt := 43) S.1 S.2.1 dX5_setLimits_36 (by decide) (fun (c_4 : d = (s 6)) => ?_) (fun (c_4 : ¬ (d = (s 6))) => ?_)
        · refine lv_iconst (v := 0) S.1 S.2.1 dX5_setLimits_43 (by decide) ?_
          refine lv_istore_n (lv' := [(3, .int 0), (0, .ref (a 0)), (1, .int g), (2, .int d)]) S.1 S.2.1 dX5_setLimits_44 rfl hl (by decide) rfl (fun ls hl => ?_)
          refine lv_aload_n S.1 S.2.1 dX5_setLimits_45 rfl (lv_at hl 1 rfl) ?_
          refine lv_iload_n S.1 S.2.1 dX5_setLimits_46 rfl (lv_at hl 2 rfl) ?_
          refine mp_5 S w lk_RX5_64 dX5_setLimits_47 (fun H locs (w : Wd D (kT cI cO) (va_A _ _) _ _ (mW cI cO a (upd s 5 g) f R) H locs) => ?_)
          refine lv_aload_n S.1 S.2.1 dX5_setLimits_50 rfl (lv_at hl 1 rfl) ?_
          refine lv_iload_n S.1 S.2.1 dX5_setLimits_51 rfl (lv_at hl 3 rfl) ?_
          refine mp_6 S w lk_RX5_67 dX5_setLimits_52 (fun H locs (w : Wd D (kT cI cO) (va_A _ _) _ _ (mW cI cO a (upd (upd s 5 g) 6 d) f R) H locs) => ?_)
          refine lv_iload_n S.1 S.2.1 dX5_setLimits_55 rfl (lv_at hl 0 rfl) ?_
          exact x_reti S w hr hlk dX5_setLimits_56 (show 0 = (o_X5_setLimits s f g d).1 from by simp only [o_X5_setLimits, if_neg c_1, if_neg c_2, if_pos c_3, if_pos c_4]) (show mW cI cO a (upd (upd s 5 g) 6 d) f R = mW cI cO a (o_X5_setLimits s f g d).2 f R from by simp only [o_X5_setLimits, if_neg c_1, if_neg c_2, if_pos c_3, if_pos c_4])
        · refine lv_iconst (v := 1) S.1 S.2.1 dX5_setLimits_39 (by decide) ?_
          refine lv_goto (tgt := 44) S.1 S.2.1 dX5_setLimits_40 (by decide) ?_
          refine lv_istore_n (lv' := [(3, .int 1), (0, .ref (a 0)), (1, .int g), (2, .int d)]) S.1 S.2.1 dX5_setLimits_44 rfl hl (by decide) rfl (fun ls hl => ?_)
          refine lv_aload_n S.1 S.2.1 dX5_setLimits_45 rfl (lv_at hl 1 rfl) ?_
          refine lv_iload_n S.1 S.2.1 dX5_setLimits_46 rfl (lv_at hl 2 rfl) ?_
          refine mp_5 S w lk_RX5_64 dX5_setLimits_47 (fun H locs (w : Wd D (kT cI cO) (va_A _ _) _ _ (mW cI cO a (upd s 5 g) f R) H locs) => ?_)
          refine lv_aload_n S.1 S.2.1 dX5_setLimits_50 rfl (lv_at hl 1 rfl) ?_
          refine lv_iload_n S.1 S.2.1 dX5_setLimits_51 rfl (lv_at hl 3 rfl) ?_
          refine mp_6 S w lk_RX5_67 dX5_setLimits_52 (fun H locs (w : Wd D (kT cI cO) (va_A _ _) _ _ (mW cI cO a (upd (upd s 5 g) 6 d) f R) H locs) => ?_)
          refine lv_iload_n S.1 S.2.1 dX5_setLimits_55 rfl (lv_at hl 0 rfl) ?_
          exact x_reti S w hr hlk dX5_setLimits_56 (show 1 = (o_X5_setLimits s f g d).1 from by simp only [o_X5_setLimits, if_neg c_1, if_neg c_2, if_pos c_3, if_neg c_4]) (show mW cI cO a (upd (upd s 5 g) 6 d) f R = mW cI cO a (o_X5_setLimits s f g d).2 f R from by simp only [o_X5_setLimits, if_neg c_1, if_neg c_2, if_pos c_3, if_neg c_4])
    · refine x_ldc S lk_RX5_117 dX5_setLimits_20 ?_
      exact x_reti S w hr hlk dX5_setLimits_22 (show (-2000000001) = (o_X5_setLimits s f g d).1 from by simp only [o_X5_setLimits, if_neg c_1, if_pos c_2]) (show mW cI cO a s f R = mW cI cO a (o_X5_setLimits s f g d).2 f R from by simp only [o_X5_setLimits, if_neg c_1, if_pos c_2])
def o_X5_setTolerance (s : Nat → Int32) (f : Nat → Nat → Int32) (g : Int32) (d : Int32) : Int32 × (Nat → Int32) := if (wIn g 0 1000000) = 0 then ((-2000000001), s) else if (wIn d 1 5) = 0 then ((-2000000001), s) else if g = (s 8) then if d = (s 9) then (0, upd (upd s 8 g) 9 d) else (1, upd (upd s 8 g) 9 d) else (1, upd (upd s 8 g) 9 d)
set_option maxHeartbeats 4000000 in
set_option maxRecDepth 100000 in
theorem k_X5_setTolerance (l : Launch) (D : va_G) (cI cO : ClassId) (a : Nat → Nat) (R : va_W) (s : Nat → Int32) (f : Nat → Nat → Int32) (g : Int32) (d : Int32) : Mi l yX5_setTolerance cX5_setTolerance 4 (some .int) { frames := 1, cells := 0, slots := 0, locals := 22 } D (kT cI cO) (mW cI cO a s f R) [.ref (a 0), .int g, .int d] (mW cI cO a (o_X5_setTolerance s f g d).2 f R) (o_X5_setTolerance s f g d).1 := by
  intro sz
  refine ent (by decide +kernel) (Nat.le_of_ble_eq_true rfl) ?_
  intro p e st m below meth c ls S hr hlk hnm w hsz hl
  have hl : lv_has ls 4 [(0, .ref (a 0)), (1, .int g), (2, .int d)] := hl
  refine lv_iload_n S.1 S.2.1 dX5_setTolerance_0 rfl (lv_at hl 1 rfl) ?_
  refine lv_iconst (v := 0) S.1 S.2.1 dX5_setTolerance_1 (by decide) ?_
  refine x_ldc S lk_RX5_63 dX5_setTolerance_2 ?_
  refine x_Si (As := [.int g, .int 0, .int 1000000]) (rest := []) S w (goodS lk_RX5_113 lt_X5_in ln_RX5 lc_X5_in) hd_X5_in (k_X5_in l _ _ (mW cI cO a s f R) g 0 1000000) rfl ⟨(Nat.le_of_ble_eq_true rfl), (Nat.le_of_ble_eq_true rfl)⟩ ⟨rfl, rfl⟩ hl.1 rfl (Nat.le_of_ble_eq_true rfl) ⟨Nat.zero_le _, Nat.zero_le _⟩ dX5_setTolerance_4 (fun H locs (w : Wd D (kT cI cO) (va_A _ _) _ _ (mW cI cO a s f R) H locs) => ?_)
  refine lv_if_eq (tgt := 19) S.1 S.2.1 dX5_setTolerance_7 (by decide) (fun (c_1 : (wIn g 0 1000000) = 0) => ?_) (fun (c_1 : ¬ ((wIn g 0 1000000) = 0)) => ?_)
  · refine x_ldc S lk_RX5_117 dX5_setTolerance_19 ?_
    exact x_reti S w hr hlk dX5_setTolerance_21 (show (-2000000001) = (o_X5_setTolerance s f g d).1 from by simp only [o_X5_setTolerance, if_pos c_1]) (show mW cI cO a s f R = mW cI cO a (o_X5_setTolerance s f g d).2 f R from by simp only [o_X5_setTolerance, if_pos c_1])
  · refine lv_iload_n S.1 S.2.1 dX5_setTolerance_10 rfl (lv_at hl 2 rfl) ?_
    refine lv_iconst (v := 1) S.1 S.2.1 dX5_setTolerance_11 (by decide) ?_
    refine lv_iconst (v := 5) S.1 S.2.1 dX5_setTolerance_12 (by decide) ?_
    refine x_Si (As := [.int d, .int 1, .int 5]) (rest := []) S w (goodS lk_RX5_113 lt_X5_in ln_RX5 lc_X5_in) hd_X5_in (k_X5_in l _ _ (mW cI cO a s f R) d 1 5) rfl ⟨(Nat.le_of_ble_eq_true rfl), (Nat.le_of_ble_eq_true rfl)⟩ ⟨rfl, rfl⟩ hl.1 rfl (Nat.le_of_ble_eq_true rfl) ⟨Nat.zero_le _, Nat.zero_le _⟩ dX5_setTolerance_13 (fun H locs (w : Wd D (kT cI cO) (va_A _ _) _ _ (mW cI cO a s f R) H locs) => ?_)
    refine lv_if_ne (tgt := 22) S.1 S.2.1 dX5_setTolerance_16 (by decide) (fun (c_2 : ¬ (wIn d 1 5) = 0) => ?_) (fun (c_2 : (wIn d 1 5) = 0) => ?_)
    · refine lv_iload_n S.1 S.2.1 dX5_setTolerance_22 rfl (lv_at hl 1 rfl) ?_
      refine lv_aload_n S.1 S.2.1 dX5_setTolerance_23 rfl (lv_at hl 0 rfl) ?_
      refine mg_8 S w lk_RX5_73 dX5_setTolerance_24 ?_
      refine lv_icmp_ne (tgt := 38) S.1 S.2.1 dX5_setTolerance_27 (by decide) (fun (c_3 : ¬ g = (s 8)) => ?_) (fun (c_3 : g = (s 8)) => ?_)
      · refine lv_iconst (v := 1) S.1 S.2.1 dX5_setTolerance_38 (by decide) ?_
        refine lv_goto (tgt := 43) S.1 S.2.1 dX5_setTolerance_39 (by decide) ?_
        refine lv_istore_n (lv' := [(3, .int 1), (0, .ref (a 0)), (1, .int g), (2, .int d)]) S.1 S.2.1 dX5_setTolerance_43 rfl hl (by decide) rfl (fun ls hl => ?_)
        refine lv_aload_n S.1 S.2.1 dX5_setTolerance_44 rfl (lv_at hl 1 rfl) ?_
        refine lv_iload_n S.1 S.2.1 dX5_setTolerance_45 rfl (lv_at hl 2 rfl) ?_
        refine mp_8 S w lk_RX5_73 dX5_setTolerance_46 (fun H locs (w : Wd D (kT cI cO) (va_A _ _) _ _ (mW cI cO a (upd s 8 g) f R) H locs) => ?_)
        refine lv_aload_n S.1 S.2.1 dX5_setTolerance_49 rfl (lv_at hl 1 rfl) ?_
        refine lv_iload_n S.1 S.2.1 dX5_setTolerance_50 rfl (lv_at hl 3 rfl) ?_
        refine mp_9 S w lk_RX5_76 dX5_setTolerance_51 (fun H locs (w : Wd D (kT cI cO) (va_A _ _) _ _ (mW cI cO a (upd (upd s 8 g) 9 d) f R) H locs) => ?_)
        refine lv_iload_n S.1 S.2.1 dX5_setTolerance_54 rfl (lv_at hl 0 rfl) ?_
        exact x_reti S w hr hlk dX5_setTolerance_55 (show 1 = (o_X5_setTolerance s f g d).1 from by simp only [o_X5_setTolerance, if_neg c_1, if_neg c_2, if_neg c_3]) (show mW cI cO a (upd (upd s 8 g) 9 d) f R = mW cI cO a (o_X5_setTolerance s f g d).2 f R from by simp only [o_X5_setTolerance, if_neg c_1, if_neg c_2, if_neg c_3])
      · refine lv_iload_n S.1 S.2.1 dX5_setTolerance_30 rfl (lv_at hl 2 rfl) ?_
        refine lv_aload_n S.1 S.2.1 dX5_setTolerance_31 rfl (lv_at hl 0 rfl) ?_
        refine mg_9 S w lk_RX5_76 dX5_setTolerance_32 ?_
        refine lv_icmp_eq (tgt := 42) S.1 S.2.1 dX5_setTolerance_35 (by decide) (fun (c_4 : d = (s 9)) => ?_) (fun (c_4 : ¬ (d = (s 9))) => ?_)
        · refine lv_iconst (v := 0) S.1 S.2.1 dX5_setTolerance_42 (by decide) ?_
          refine lv_istore_n (lv' := [(3, .int 0), (0, .ref (a 0)), (1, .int g), (2, .int d)]) S.1 S.2.1 dX5_setTolerance_43 rfl hl (by decide) rfl (fun ls hl => ?_)
          refine lv_aload_n S.1 S.2.1 dX5_setTolerance_44 rfl (lv_at hl 1 rfl) ?_
          refine lv_iload_n S.1 S.2.1 dX5_setTolerance_45 rfl (lv_at hl 2 rfl) ?_
          refine mp_8 S w lk_RX5_73 dX5_setTolerance_46 (fun H locs (w : Wd D (kT cI cO) (va_A _ _) _ _ (mW cI cO a (upd s 8 g) f R) H locs) => ?_)
          refine lv_aload_n S.1 S.2.1 dX5_setTolerance_49 rfl (lv_at hl 1 rfl) ?_
          refine lv_iload_n S.1 S.2.1 dX5_setTolerance_50 rfl (lv_at hl 3 rfl) ?_
          refine mp_9 S w lk_RX5_76 dX5_setTolerance_51 (fun H locs (w : Wd D (kT cI cO) (va_A _ _) _ _ (mW cI cO a (upd (upd s 8 g) 9 d) f R) H locs) => ?_)
          refine lv_iload_n S.1 S.2.1 dX5_setTolerance_54 rfl (lv_at hl 0 rfl) ?_
          exact x_reti S w hr hlk dX5_setTolerance_55 (show 0 = (o_X5_setTolerance s f g d).1 from by simp only [o_X5_setTolerance, if_neg c_1, if_neg c_2, if_pos c_3, if_pos c_4]) (show mW cI cO a (upd (upd s 8 g) 9 d) f R = mW cI cO a (o_X5_setTolerance s f g d).2 f R from by simp only [o_X5_setTolerance, if_neg c_1, if_neg c_2, if_pos c_3, if_pos c_4])
        · refine lv_iconst (v := 1) S.1 S.2.1 dX5_setTolerance_38 (by decide) ?_
          refine lv_goto (tgt := 43) S.1 S.2.1 dX5_setTolerance_39 (by decide) ?_
          refine lv_istore_n (lv' := [(3, .int 1), (0, .ref (a 0)), (1, .int g), (2, .int d)]) S.1 S.2.1 dX5_setTolerance_43 rfl hl (by decide) rfl (fun ls hl => ?_)
          refine lv_aload_n S.1 S.2.1 dX5_setTolerance_44 rfl (lv_at hl 1 rfl) ?_
          refine lv_iload_n S.1 S.2.1 dX5_setTolerance_45 rfl (lv_at hl 2 rfl) ?_
          refine mp_8 S w lk_RX5_73 dX5_setTolerance_46 (fun H locs (w : Wd D (kT cI cO) (va_A _ _) _ _ (mW cI cO a (upd s 8 g) f R) H locs) => ?_)
          refine lv_aload_n S.1 S.2.1 dX5_setTolerance_49 rfl (lv_at hl 1 rfl) ?_
          refine lv_iload_n S.1 S.2.1 dX5_setTolerance_50 rfl (lv_at hl 3 rfl) ?_
          refine mp_9 S w lk_RX5_76 dX5_setTolerance_51 (fun H locs (w : Wd D (kT cI cO) (va_A _ _) _ _ (mW cI cO a (upd (upd s 8 g) 9 d) f R) H locs) => ?_)
          refine lv_iload_n S.1 S.2.1 dX5_setTolerance_54 rfl (lv_at hl 0 rfl) ?_
          exact x_reti S w hr hlk dX5_setTolerance_55 (show 1 = (o_X5_setTolerance s f g d).1 from by simp only [o_X5_setTolerance, if_neg c_1, if_neg c_2, if_pos c_3, if_neg c_4]) (show mW cI cO a (upd (upd s 8 g) 9 d) f R = mW cI cO a (o_X5_setTolerance s f g d).2 f R from by simp only [o_X5_setTolerance, if_neg c_1, if_neg c_2, if_pos c_3, if_neg c_4])
    · refine x_ldc S lk_RX5_117 dX5_setTolerance_19 ?_
      exact x_reti S w hr hlk dX5_setTolerance_21 (show (-2000000001) = (o_X5_setTolerance s f g d).1 from by simp only [o_X5_setTolerance, if_neg c_1, if_pos c_2]) (show mW cI cO a s f R = mW cI cO a (o_X5_setTolerance s f g d).2 f R from by simp only [o_X5_setTolerance, if_neg c_1, if_pos c_2])
def o_X5_setGreatestShift (s : Nat → Int32) (f : Nat → Nat → Int32) (g : Int32) : Int32 × (Nat → Int32) := if (wIn g 0 5) = 0 then ((-2000000001), s) else (s 7, upd s 7 g)
set_option maxHeartbeats 4000000 in
set_option maxRecDepth 100000 in
theorem k_X5_setGreatestShift (l : Launch) (D : va_G) (cI cO : ClassId) (a : Nat → Nat) (R : va_W) (s : Nat → Int32) (f : Nat → Nat → Int32) (g : Int32) : Mi l yX5_setGreatestShift cX5_setGreatestShift 3 (some .int) { frames := 1, cells := 0, slots := 0, locals := 22 } D (kT cI cO) (mW cI cO a s f R) [.ref (a 0), .int g] (mW cI cO a (o_X5_setGreatestShift s f g).2 f R) (o_X5_setGreatestShift s f g).1 := by
  intro sz
  refine ent (by decide +kernel) (Nat.le_of_ble_eq_true rfl) ?_
  intro p e st m below meth c ls S hr hlk hnm w hsz hl
  have hl : lv_has ls 3 [(0, .ref (a 0)), (1, .int g)] := hl
  refine lv_iload_n S.1 S.2.1 dX5_setGreatestShift_0 rfl (lv_at hl 1 rfl) ?_
  refine lv_iconst (v := 0) S.1 S.2.1 dX5_setGreatestShift_1 (by decide) ?_
  refine lv_iconst (v := 5) S.1 S.2.1 dX5_setGreatestShift_2 (by decide) ?_
  refine x_Si (As := [.int g, .int 0, .int 5]) (rest := []) S w (goodS lk_RX5_113 lt_X5_in ln_RX5 lc_X5_in) hd_X5_in (k_X5_in l _ _ (mW cI cO a s f R) g 0 5) rfl ⟨(Nat.le_of_ble_eq_true rfl), (Nat.le_of_ble_eq_true rfl)⟩ ⟨rfl, rfl⟩ hl.1 rfl (Nat.le_of_ble_eq_true rfl) ⟨Nat.zero_le _, Nat.zero_le _⟩ dX5_setGreatestShift_3 (fun H locs (w : Wd D (kT cI cO) (va_A _ _) _ _ (mW cI cO a s f R) H locs) => ?_)
  refine lv_if_ne (tgt := 12) S.1 S.2.1 dX5_setGreatestShift_6 (by decide) (fun (c_1 : ¬ (wIn g 0 5) = 0) => ?_) (fun (c_1 : (wIn g 0 5) = 0) => ?_)
  · refine lv_aload_n S.1 S.2.1 dX5_setGreatestShift_12 rfl (lv_at hl 0 rfl) ?_
    refine mg_7 S w lk_RX5_70 dX5_setGreatestShift_13 ?_
    refine lv_istore_n (lv' := [(2, .int (s 7)), (0, .ref (a 0)), (1, .int g)]) S.1 S.2.1 dX5_setGreatestShift_16 rfl hl (by decide) rfl (fun ls hl => ?_)
    refine lv_aload_n S.1 S.2.1 dX5_setGreatestShift_17 rfl (lv_at hl 1 rfl) ?_
    refine lv_iload_n S.1 S.2.1 dX5_setGreatestShift_18 rfl (lv_at hl 2 rfl) ?_
    refine mp_7 S w lk_RX5_70 dX5_setGreatestShift_19 (fun H locs (w : Wd D (kT cI cO) (va_A _ _) _ _ (mW cI cO a (upd s 7 g) f R) H locs) => ?_)
    refine lv_iload_n S.1 S.2.1 dX5_setGreatestShift_22 rfl (lv_at hl 0 rfl) ?_
    exact x_reti S w hr hlk dX5_setGreatestShift_23 (show s 7 = (o_X5_setGreatestShift s f g).1 from by simp only [o_X5_setGreatestShift, if_neg c_1]) (show mW cI cO a (upd s 7 g) f R = mW cI cO a (o_X5_setGreatestShift s f g).2 f R from by simp only [o_X5_setGreatestShift, if_neg c_1])
  · refine x_ldc S lk_RX5_117 dX5_setGreatestShift_9 ?_
    exact x_reti S w hr hlk dX5_setGreatestShift_11 (show (-2000000001) = (o_X5_setGreatestShift s f g).1 from by simp only [o_X5_setGreatestShift, if_pos c_1]) (show mW cI cO a s f R = mW cI cO a (o_X5_setGreatestShift s f g).2 f R from by simp only [o_X5_setGreatestShift, if_pos c_1])
def o_X5_setGuard (s : Nat → Int32) (f : Nat → Nat → Int32) (g : Int32) : Int32 × (Nat → Int32) := if g = (s 10) then (0, upd s 10 g) else (1, upd s 10 g)
set_option maxHeartbeats 4000000 in
set_option maxRecDepth 100000 in
theorem k_X5_setGuard (l : Launch) (D : va_G) (cI cO : ClassId) (a : Nat → Nat) (R : va_W) (s : Nat → Int32) (f : Nat → Nat → Int32) (g : Int32) (hg : g = 0 ∨ g = 1) : Mi l yX5_setGuard cX5_setGuard 3 (some .int) { frames := 0, cells := 0, slots := 0, locals := 0 } D (kT cI cO) (mW cI cO a s f R) [.ref (a 0), .int g] (mW cI cO a (o_X5_setGuard s f g).2 f R) (o_X5_setGuard s f g).1 := by
  intro sz
  refine ent (by decide +kernel) (Nat.le_of_ble_eq_true rfl) ?_
  intro p e st m below meth c ls S hr hlk hnm w hsz hl
  have hl : lv_has ls 3 [(0, .ref (a 0)), (1, .int g)] := hl
  refine lv_iload_n S.1 S.2.1 dX5_setGuard_0 rfl (lv_at hl 1 rfl) ?_
  refine lv_aload_n S.1 S.2.1 dX5_setGuard_1 rfl (lv_at hl 0 rfl) ?_
  refine mg_10 S w lk_RX5_79 dX5_setGuard_2 ?_
  refine lv_icmp_eq (tgt := 12) S.1 S.2.1 dX5_setGuard_5 (by decide) (fun (c_1 : g = (s 10)) => ?_) (fun (c_1 : ¬ (g = (s 10))) => ?_)
  · refine lv_iconst (v := 0) S.1 S.2.1 dX5_setGuard_12 (by decide) ?_
    refine lv_istore_n (lv' := [(2, .int 0), (0, .ref (a 0)), (1, .int g)]) S.1 S.2.1 dX5_setGuard_13 rfl hl (by decide) rfl (fun ls hl => ?_)
    refine lv_aload_n S.1 S.2.1 dX5_setGuard_14 rfl (lv_at hl 1 rfl) ?_
    refine lv_iload_n S.1 S.2.1 dX5_setGuard_15 rfl (lv_at hl 2 rfl) ?_
    refine mp_10 S w (hg) lk_RX5_79 dX5_setGuard_16 (fun H locs (w : Wd D (kT cI cO) (va_A _ _) _ _ (mW cI cO a (upd s 10 g) f R) H locs) => ?_)
    refine lv_iload_n S.1 S.2.1 dX5_setGuard_19 rfl (lv_at hl 0 rfl) ?_
    exact x_reti S w hr hlk dX5_setGuard_20 (show 0 = (o_X5_setGuard s f g).1 from by simp only [o_X5_setGuard, if_pos c_1]) (show mW cI cO a (upd s 10 g) f R = mW cI cO a (o_X5_setGuard s f g).2 f R from by simp only [o_X5_setGuard, if_pos c_1])
  · refine lv_iconst (v := 1) S.1 S.2.1 dX5_setGuard_8 (by decide) ?_
    refine lv_goto (tgt := 13) S.1 S.2.1 dX5_setGuard_9 (by decide) ?_
    refine lv_istore_n (lv' := [(2, .int 1), (0, .ref (a 0)), (1, .int g)]) S.1 S.2.1 dX5_setGuard_13 rfl hl (by decide) rfl (fun ls hl => ?_)
    refine lv_aload_n S.1 S.2.1 dX5_setGuard_14 rfl (lv_at hl 1 rfl) ?_
    refine lv_iload_n S.1 S.2.1 dX5_setGuard_15 rfl (lv_at hl 2 rfl) ?_
    refine mp_10 S w (hg) lk_RX5_79 dX5_setGuard_16 (fun H locs (w : Wd D (kT cI cO) (va_A _ _) _ _ (mW cI cO a (upd s 10 g) f R) H locs) => ?_)
    refine lv_iload_n S.1 S.2.1 dX5_setGuard_19 rfl (lv_at hl 0 rfl) ?_
    exact x_reti S w hr hlk dX5_setGuard_20 (show 1 = (o_X5_setGuard s f g).1 from by simp only [o_X5_setGuard, if_neg c_1]) (show mW cI cO a (upd s 10 g) f R = mW cI cO a (o_X5_setGuard s f g).2 f R from by simp only [o_X5_setGuard, if_neg c_1])
def o_X5_setting (s : Nat → Int32) (f : Nat → Nat → Int32) (q : Int32) : Int32 := if q = 0 then s 0 else if q = 1 then s 1 else if q = 2 then s 2 else if q = 3 then s 3 else if q = 4 then s 4 else if q = 5 then s 5 else if q = 6 then s 6 else if q = 7 then s 7 else if q = 8 then s 8 else if q = 9 then s 9 else if q = 10 then if (s 10) = 0 then 0 else 1 else (-2000000001)
set_option maxHeartbeats 4000000 in
set_option maxRecDepth 100000 in
theorem k_X5_setting (l : Launch) (D : va_G) (cI cO : ClassId) (a : Nat → Nat) (R : va_W) (s : Nat → Int32) (f : Nat → Nat → Int32) (q : Int32) : Mi l yX5_setting cX5_setting 2 (some .int) { frames := 0, cells := 0, slots := 0, locals := 0 } D (kT cI cO) (mW cI cO a s f R) [.ref (a 0), .int q] (mW cI cO a s f R) (o_X5_setting s f q) := by
  intro sz
  refine ent (by decide +kernel) (Nat.le_of_ble_eq_true rfl) ?_
  intro p e st m below meth c ls S hr hlk hnm w hsz hl
  have hl : lv_has ls 2 [(0, .ref (a 0)), (1, .int q)] := hl
  refine lv_iload_n S.1 S.2.1 dX5_setting_0 rfl (lv_at hl 1 rfl) ?_
  by_cases c_1 : q = 0
  · refine lv_tableIn (off := 59) (tgt := 60) S.1 S.2.1 dX5_setting_1 (by rw [c_1]; decide) (by rw [c_1]; decide) (by rw [c_1]; decide) (by decide) ?_
    refine lv_aload_n S.1 S.2.1 dX5_setting_60 rfl (lv_at hl 0 rfl) ?_
    refine mg_0 S w lk_RX5_47 dX5_setting_61 ?_
    exact x_reti S w hr hlk dX5_setting_64 (show s 0 = o_X5_setting s f q from by simp only [o_X5_setting, if_pos c_1]) (show mW cI cO a s f R = mW cI cO a s f R from rfl)
  by_cases c_2 : q = 1
  · refine lv_tableIn (off := 64) (tgt := 65) S.1 S.2.1 dX5_setting_1 (by rw [c_2]; decide) (by rw [c_2]; decide) (by rw [c_2]; decide) (by decide) ?_
    refine lv_aload_n S.1 S.2.1 dX5_setting_65 rfl (lv_at hl 0 rfl) ?_
    refine mg_1 S w lk_RX5_51 dX5_setting_66 ?_
    exact x_reti S w hr hlk dX5_setting_69 (show s 1 = o_X5_setting s f q from by simp only [o_X5_setting, if_neg c_1, if_pos c_2]) (show mW cI cO a s f R = mW cI cO a s f R from rfl)
  by_cases c_3 : q = 2
  · refine lv_tableIn (off := 69) (tgt := 70) S.1 S.2.1 dX5_setting_1 (by rw [c_3]; decide) (by rw [c_3]; decide) (by rw [c_3]; decide) (by decide) ?_
    refine lv_aload_n S.1 S.2.1 dX5_setting_70 rfl (lv_at hl 0 rfl) ?_
    refine mg_2 S w lk_RX5_54 dX5_setting_71 ?_
    exact x_reti S w hr hlk dX5_setting_74 (show s 2 = o_X5_setting s f q from by simp only [o_X5_setting, if_neg c_1, if_neg c_2, if_pos c_3]) (show mW cI cO a s f R = mW cI cO a s f R from rfl)
  by_cases c_4 : q = 3
  · refine lv_tableIn (off := 74) (tgt := 75) S.1 S.2.1 dX5_setting_1 (by rw [c_4]; decide) (by rw [c_4]; decide) (by rw [c_4]; decide) (by decide) ?_
    refine lv_aload_n S.1 S.2.1 dX5_setting_75 rfl (lv_at hl 0 rfl) ?_
    refine mg_3 S w lk_RX5_57 dX5_setting_76 ?_
    exact x_reti S w hr hlk dX5_setting_79 (show s 3 = o_X5_setting s f q from by simp only [o_X5_setting, if_neg c_1, if_neg c_2, if_neg c_3, if_pos c_4]) (show mW cI cO a s f R = mW cI cO a s f R from rfl)
  by_cases c_5 : q = 4
  · refine lv_tableIn (off := 79) (tgt := 80) S.1 S.2.1 dX5_setting_1 (by rw [c_5]; decide) (by rw [c_5]; decide) (by rw [c_5]; decide) (by decide) ?_
    refine lv_aload_n S.1 S.2.1 dX5_setting_80 rfl (lv_at hl 0 rfl) ?_
    refine mg_4 S w lk_RX5_60 dX5_setting_81 ?_
    exact x_reti S w hr hlk dX5_setting_84 (show s 4 = o_X5_setting s f q from by simp only [o_X5_setting, if_neg c_1, if_neg c_2, if_neg c_3, if_neg c_4, if_pos c_5]) (show mW cI cO a s f R = mW cI cO a s f R from rfl)
  by_cases c_6 : q = 5
  · refine lv_tableIn (off := 84) (tgt := 85) S.1 S.2.1 dX5_setting_1 (by rw [c_6]; decide) (by rw [c_6]; decide) (by rw [c_6]; decide) (by decide) ?_
    refine lv_aload_n S.1 S.2.1 dX5_setting_85 rfl (lv_at hl 0 rfl) ?_
    refine mg_5 S w lk_RX5_64 dX5_setting_86 ?_
    exact x_reti S w hr hlk dX5_setting_89 (show s 5 = o_X5_setting s f q from by simp only [o_X5_setting, if_neg c_1, if_neg c_2, if_neg c_3, if_neg c_4, if_neg c_5, if_pos c_6]) (show mW cI cO a s f R = mW cI cO a s f R from rfl)
  by_cases c_7 : q = 6
  · refine lv_tableIn (off := 89) (tgt := 90) S.1 S.2.1 dX5_setting_1 (by rw [c_7]; decide) (by rw [c_7]; decide) (by rw [c_7]; decide) (by decide) ?_
    refine lv_aload_n S.1 S.2.1 dX5_setting_90 rfl (lv_at hl 0 rfl) ?_
    refine mg_6 S w lk_RX5_67 dX5_setting_91 ?_
    exact x_reti S w hr hlk dX5_setting_94 (show s 6 = o_X5_setting s f q from by simp only [o_X5_setting, if_neg c_1, if_neg c_2, if_neg c_3, if_neg c_4, if_neg c_5, if_neg c_6, if_pos c_7]) (show mW cI cO a s f R = mW cI cO a s f R from rfl)
  by_cases c_8 : q = 7
  · refine lv_tableIn (off := 94) (tgt := 95) S.1 S.2.1 dX5_setting_1 (by rw [c_8]; decide) (by rw [c_8]; decide) (by rw [c_8]; decide) (by decide) ?_
    refine lv_aload_n S.1 S.2.1 dX5_setting_95 rfl (lv_at hl 0 rfl) ?_
    refine mg_7 S w lk_RX5_70 dX5_setting_96 ?_
    exact x_reti S w hr hlk dX5_setting_99 (show s 7 = o_X5_setting s f q from by simp only [o_X5_setting, if_neg c_1, if_neg c_2, if_neg c_3, if_neg c_4, if_neg c_5, if_neg c_6, if_neg c_7, if_pos c_8]) (show mW cI cO a s f R = mW cI cO a s f R from rfl)
  by_cases c_9 : q = 8
  · refine lv_tableIn (off := 99) (tgt := 100) S.1 S.2.1 dX5_setting_1 (by rw [c_9]; decide) (by rw [c_9]; decide) (by rw [c_9]; decide) (by decide) ?_
    refine lv_aload_n S.1 S.2.1 dX5_setting_100 rfl (lv_at hl 0 rfl) ?_
    refine mg_8 S w lk_RX5_73 dX5_setting_101 ?_
    exact x_reti S w hr hlk dX5_setting_104 (show s 8 = o_X5_setting s f q from by simp only [o_X5_setting, if_neg c_1, if_neg c_2, if_neg c_3, if_neg c_4, if_neg c_5, if_neg c_6, if_neg c_7, if_neg c_8, if_pos c_9]) (show mW cI cO a s f R = mW cI cO a s f R from rfl)
  by_cases c_10 : q = 9
  · refine lv_tableIn (off := 104) (tgt := 105) S.1 S.2.1 dX5_setting_1 (by rw [c_10]; decide) (by rw [c_10]; decide) (by rw [c_10]; decide) (by decide) ?_
    refine lv_aload_n S.1 S.2.1 dX5_setting_105 rfl (lv_at hl 0 rfl) ?_
    refine mg_9 S w lk_RX5_76 dX5_setting_106 ?_
    exact x_reti S w hr hlk dX5_setting_109 (show s 9 = o_X5_setting s f q from by simp only [o_X5_setting, if_neg c_1, if_neg c_2, if_neg c_3, if_neg c_4, if_neg c_5, if_neg c_6, if_neg c_7, if_neg c_8, if_neg c_9, if_pos c_10]) (show mW cI cO a s f R = mW cI cO a s f R from rfl)
  by_cases c_11 : q = 10
  · refine lv_tableIn (off := 109) (tgt := 110) S.1 S.2.1 dX5_setting_1 (by rw [c_11]; decide) (by rw [c_11]; decide) (by rw [c_11]; decide) (by decide) ?_
    refine lv_aload_n S.1 S.2.1 dX5_setting_110 rfl (lv_at hl 0 rfl) ?_
    refine mg_10 S w lk_RX5_79 dX5_setting_111 ?_
    refine lv_if_eq (tgt := 121) S.1 S.2.1 dX5_setting_114 (by decide) (fun (c_12 : (s 10) = 0) => ?_) (fun (c_12 : ¬ ((s 10) = 0)) => ?_)
    · refine lv_iconst (v := 0) S.1 S.2.1 dX5_setting_121 (by decide) ?_
      exact x_reti S w hr hlk dX5_setting_122 (show 0 = o_X5_setting s f q from by simp only [o_X5_setting, if_neg c_1, if_neg c_2, if_neg c_3, if_neg c_4, if_neg c_5, if_neg c_6, if_neg c_7, if_neg c_8, if_neg c_9, if_neg c_10, if_pos c_11, if_pos c_12]) (show mW cI cO a s f R = mW cI cO a s f R from rfl)
    · refine lv_iconst (v := 1) S.1 S.2.1 dX5_setting_117 (by decide) ?_
      refine lv_goto (tgt := 122) S.1 S.2.1 dX5_setting_118 (by decide) ?_
      exact x_reti S w hr hlk dX5_setting_122 (show 1 = o_X5_setting s f q from by simp only [o_X5_setting, if_neg c_1, if_neg c_2, if_neg c_3, if_neg c_4, if_neg c_5, if_neg c_6, if_neg c_7, if_neg c_8, if_neg c_9, if_neg c_10, if_pos c_11, if_neg c_12]) (show mW cI cO a s f R = mW cI cO a s f R from rfl)
  refine lv_tableOut (tgt := 123) S.1 S.2.1 dX5_setting_1 (x_tout11 c_1 c_2 c_3 c_4 c_5 c_6 c_7 c_8 c_9 c_10 c_11) (by decide) ?_
  refine x_ldc S lk_RX5_117 dX5_setting_123 ?_
  exact x_reti S w hr hlk dX5_setting_125 (show (-2000000001) = o_X5_setting s f q from by simp only [o_X5_setting, if_neg c_1, if_neg c_2, if_neg c_3, if_neg c_4, if_neg c_5, if_neg c_6, if_neg c_7, if_neg c_8, if_neg c_9, if_neg c_10, if_neg c_11]) (show mW cI cO a s f R = mW cI cO a s f R from rfl)
def o_X5_startTrial (s : Nat → Int32) (f : Nat → Nat → Int32) : Int32 × (Nat → Int32) := if (s 11) = 0 then (((s 13) + 1) - 1, upd (upd (upd s 11 1) 12 0) 13 ((s 13) + 1)) else ((-2000000002), s)
set_option maxHeartbeats 4000000 in
set_option maxRecDepth 100000 in
theorem k_X5_startTrial (l : Launch) (D : va_G) (cI cO : ClassId) (a : Nat → Nat) (R : va_W) (s : Nat → Int32) (f : Nat → Nat → Int32) : Mi l yX5_startTrial cX5_startTrial 1 (some .int) { frames := 0, cells := 0, slots := 0, locals := 0 } D (kT cI cO) (mW cI cO a s f R) [.ref (a 0)] (mW cI cO a (o_X5_startTrial s f).2 f R) (o_X5_startTrial s f).1 := by
  intro sz
  refine ent (by decide +kernel) (Nat.le_of_ble_eq_true rfl) ?_
  intro p e st m below meth c ls S hr hlk hnm w hsz hl
  have hl : lv_has ls 1 [(0, .ref (a 0))] := hl
  refine lv_aload_n S.1 S.2.1 dX5_startTrial_0 rfl (lv_at hl 0 rfl) ?_
  refine mg_11 S w lk_RX5_83 dX5_startTrial_1 ?_
  refine lv_if_eq (tgt := 10) S.1 S.2.1 dX5_startTrial_4 (by decide) (fun (c_1 : (s 11) = 0) => ?_) (fun (c_1 : ¬ ((s 11) = 0)) => ?_)
  · refine lv_aload_n S.1 S.2.1 dX5_startTrial_10 rfl (lv_at hl 0 rfl) ?_
    refine lv_iconst (v := 1) S.1 S.2.1 dX5_startTrial_11 (by decide) ?_
    refine mp_11 S w (Or.inr rfl) lk_RX5_83 dX5_startTrial_12 (fun H locs (w : Wd D (kT cI cO) (va_A _ _) _ _ (mW cI cO a (upd s 11 1) f R) H locs) => ?_)
    refine lv_aload_n S.1 S.2.1 dX5_startTrial_15 rfl (lv_at hl 0 rfl) ?_
    refine lv_iconst (v := 0) S.1 S.2.1 dX5_startTrial_16 (by decide) ?_
    refine mp_12 S w lk_RX5_86 dX5_startTrial_17 (fun H locs (w : Wd D (kT cI cO) (va_A _ _) _ _ (mW cI cO a (upd (upd s 11 1) 12 0) f R) H locs) => ?_)
    refine lv_aload_n S.1 S.2.1 dX5_startTrial_20 rfl (lv_at hl 0 rfl) ?_
    refine lv_dup S.1 S.2.1 dX5_startTrial_21 rfl ?_
    refine mg_13 S w lk_RX5_89 dX5_startTrial_22 ?_
    refine x_eqi (x := (upd (upd s 11 1) 12 0) 13) (y := s 13) rfl ?_
    refine lv_iconst (v := 1) S.1 S.2.1 dX5_startTrial_25 (by decide) ?_
    refine lv_iadd S.1 S.2.1 dX5_startTrial_26 ?_
    refine mp_13 S w lk_RX5_89 dX5_startTrial_27 (fun H locs (w : Wd D (kT cI cO) (va_A _ _) _ _ (mW cI cO a (upd (upd (upd s 11 1) 12 0) 13 ((s 13) + 1)) f R) H locs) => ?_)
    refine lv_aload_n S.1 S.2.1 dX5_startTrial_30 rfl (lv_at hl 0 rfl) ?_
    refine mg_13 S w lk_RX5_89 dX5_startTrial_31 ?_
    refine x_eqi (x := (upd (upd (upd s 11 1) 12 0) 13 ((s 13) + 1)) 13) (y := (s 13) + 1) rfl ?_
    refine lv_iconst (v := 1) S.1 S.2.1 dX5_startTrial_34 (by decide) ?_
    refine lv_isub S.1 S.2.1 dX5_startTrial_35 ?_
    exact x_reti S w hr hlk dX5_startTrial_36 (show ((s 13) + 1) - 1 = (o_X5_startTrial s f).1 from by simp only [o_X5_startTrial, if_pos c_1]) (show mW cI cO a (upd (upd (upd s 11 1) 12 0) 13 ((s 13) + 1)) f R = mW cI cO a (o_X5_startTrial s f).2 f R from by simp only [o_X5_startTrial, if_pos c_1])
  · refine x_ldc S lk_RX5_164 dX5_startTrial_7 ?_
    exact x_reti S w hr hlk dX5_startTrial_9 (show (-2000000002) = (o_X5_startTrial s f).1 from by simp only [o_X5_startTrial, if_neg c_1]) (show mW cI cO a s f R = mW cI cO a (o_X5_startTrial s f).2 f R from by simp only [o_X5_startTrial, if_neg c_1])
def o_X5_position (s : Nat → Int32) (f : Nat → Nat → Int32) : Int32 := if (s 11) = 0 then (-2000000003) else s 12
set_option maxHeartbeats 4000000 in
set_option maxRecDepth 100000 in
theorem k_X5_position (l : Launch) (D : va_G) (cI cO : ClassId) (a : Nat → Nat) (R : va_W) (s : Nat → Int32) (f : Nat → Nat → Int32) : Mi l yX5_position cX5_position 1 (some .int) { frames := 0, cells := 0, slots := 0, locals := 0 } D (kT cI cO) (mW cI cO a s f R) [.ref (a 0)] (mW cI cO a s f R) (o_X5_position s f) := by
  intro sz
  refine ent (by decide +kernel) (Nat.le_of_ble_eq_true rfl) ?_
  intro p e st m below meth c ls S hr hlk hnm w hsz hl
  have hl : lv_has ls 1 [(0, .ref (a 0))] := hl
  refine lv_aload_n S.1 S.2.1 dX5_position_0 rfl (lv_at hl 0 rfl) ?_
  refine mg_11 S w lk_RX5_83 dX5_position_1 ?_
  refine lv_if_eq (tgt := 14) S.1 S.2.1 dX5_position_4 (by decide) (fun (c_1 : (s 11) = 0) => ?_) (fun (c_1 : ¬ ((s 11) = 0)) => ?_)
  · refine x_ldc S lk_RX5_165 dX5_position_14 ?_
    exact x_reti S w hr hlk dX5_position_16 (show (-2000000003) = o_X5_position s f from by simp only [o_X5_position, if_pos c_1]) (show mW cI cO a s f R = mW cI cO a s f R from rfl)
  · refine lv_aload_n S.1 S.2.1 dX5_position_7 rfl (lv_at hl 0 rfl) ?_
    refine mg_12 S w lk_RX5_86 dX5_position_8 ?_
    refine lv_goto (tgt := 16) S.1 S.2.1 dX5_position_11 (by decide) ?_
    exact x_reti S w hr hlk dX5_position_16 (show s 12 = o_X5_position s f from by simp only [o_X5_position, if_neg c_1]) (show mW cI cO a s f R = mW cI cO a s f R from rfl)
def o_X5_input (s : Nat → Int32) (f : Nat → Nat → Int32) (N : Nat) (k : Int32) : Int32 := if (noS s k) = 0 then (f 1) (Int32.toNatClampNeg k) else (-2000000001)
set_option maxHeartbeats 4000000 in
set_option maxRecDepth 100000 in
theorem k_X5_input (l : Launch) (D : va_G) (cI cO : ClassId) (a : Nat → Nat) (R : va_W) (s : Nat → Int32) (f : Nat → Nat → Int32) (N : Nat) (k : Int32) (hN : s 0 = nI N) (h4 : 4 ≤ N) (h48 : N ≤ 48) : Mi l yX5_input cX5_input 2 (some .int) { frames := 2, cells := 0, slots := 0, locals := 43 } D (kT cI cO) (mW cI cO a s f R) [.ref (a 0), .int k] (mW cI cO a s f R) (o_X5_input s f N k) := by
  intro sz
  refine ent (by decide +kernel) (Nat.le_of_ble_eq_true rfl) ?_
  intro p e st m below meth c ls S hr hlk hnm w hsz hl
  have hl : lv_has ls 2 [(0, .ref (a 0)), (1, .int k)] := hl
  refine lv_aload_n S.1 S.2.1 dX5_input_0 rfl (lv_at hl 0 rfl) ?_
  refine lv_iload_n S.1 S.2.1 dX5_input_1 rfl (lv_at hl 1 rfl) ?_
  refine x_Vi (As := [.int k]) (rest := []) S w (goodV lk_RX5_118 li_X5_noSample ls_X5_noSample ln_RX5 lc_X5_noSample) hV_X5_noSample (k_X5_noSample l D cI cO a R s f k) rfl 0 5 rfl rfl mc_0 ⟨(Nat.le_of_ble_eq_true rfl), (Nat.le_of_ble_eq_true rfl)⟩ ⟨rfl, rfl⟩ hl.1 rfl (Nat.le_of_ble_eq_true rfl) ⟨Nat.zero_le _, Nat.zero_le _⟩ dX5_input_2 (fun H locs (w : Wd D (kT cI cO) (va_A _ _) _ _ (mW cI cO a s f R) H locs) => ?_)
  refine x_eqi (x := o_X5_noSample s f k) (y := noS s k) rfl ?_
  refine lv_if_eq (tgt := 13) S.1 S.2.1 dX5_input_5 (by decide) (fun (c_1 : (noS s k) = 0) => ?_) (fun (c_1 : ¬ ((noS s k) = 0)) => ?_)
  · have hj := noS_j hN h4 h48 c_1
    refine lv_aload_n S.1 S.2.1 dX5_input_13 rfl (lv_at hl 0 rfl) ?_
    refine mr_2 S w lk_RX5_13 dX5_input_14 ?_
    refine lv_iload_n S.1 S.2.1 dX5_input_17 rfl (lv_at hl 1 rfl) ?_
    refine x_iald S w 2 0 (g := f 1) (v := (f 1) (Int32.toNatClampNeg k)) (Int32.toNatClampNeg k) (by have := hj.1; omega) (hj.2) (Nat.le_of_ble_eq_true rfl) (mc_2) rfl (rfl) dX5_input_18 ?_
    exact x_reti S w hr hlk dX5_input_19 (show (f 1) (Int32.toNatClampNeg k) = o_X5_input s f N k from by simp only [o_X5_input, if_pos c_1]) (show mW cI cO a s f R = mW cI cO a s f R from rfl)
  · refine x_ldc S lk_RX5_117 dX5_input_8 ?_
    refine lv_goto (tgt := 19) S.1 S.2.1 dX5_input_10 (by decide) ?_
    exact x_reti S w hr hlk dX5_input_19 (show (-2000000001) = o_X5_input s f N k from by simp only [o_X5_input, if_neg c_1]) (show mW cI cO a s f R = mW cI cO a s f R from rfl)
def o_X5_setInput (s : Nat → Int32) (f : Nat → Nat → Int32) (N : Nat) (k : Int32) (v : Int32) : Int32 × (Nat → Nat → Int32) := if (s 11) = 0 then if (noS s k) = 0 then if (wIn v (-1000000) 1000000) = 0 then ((-2000000001), f) else ((f 1) (Int32.toNatClampNeg k), va_up f 1 (upd (f 1) (Int32.toNatClampNeg k) v)) else ((-2000000001), f) else ((-2000000002), f)
set_option maxHeartbeats 4000000 in
set_option maxRecDepth 100000 in
theorem k_X5_setInput (l : Launch) (D : va_G) (cI cO : ClassId) (a : Nat → Nat) (R : va_W) (s : Nat → Int32) (f : Nat → Nat → Int32) (N : Nat) (k : Int32) (v : Int32) (hN : s 0 = nI N) (h4 : 4 ≤ N) (h48 : N ≤ 48) : Mi l yX5_setInput cX5_setInput 4 (some .int) { frames := 2, cells := 0, slots := 0, locals := 43 } D (kT cI cO) (mW cI cO a s f R) [.ref (a 0), .int k, .int v] (mW cI cO a s (o_X5_setInput s f N k v).2 R) (o_X5_setInput s f N k v).1 := by
  intro sz
  refine ent (by decide +kernel) (Nat.le_of_ble_eq_true rfl) ?_
  intro p e st m below meth c ls S hr hlk hnm w hsz hl
  have hl : lv_has ls 4 [(0, .ref (a 0)), (1, .int k), (2, .int v)] := hl
  refine lv_aload_n S.1 S.2.1 dX5_setInput_0 rfl (lv_at hl 0 rfl) ?_
  refine mg_11 S w lk_RX5_83 dX5_setInput_1 ?_
  refine lv_if_eq (tgt := 10) S.1 S.2.1 dX5_setInput_4 (by decide) (fun (c_1 : (s 11) = 0) => ?_) (fun (c_1 : ¬ ((s 11) = 0)) => ?_)
  · refine lv_aload_n S.1 S.2.1 dX5_setInput_10 rfl (lv_at hl 0 rfl) ?_
    refine lv_iload_n S.1 S.2.1 dX5_setInput_11 rfl (lv_at hl 1 rfl) ?_
    refine x_Vi (As := [.int k]) (rest := []) S w (goodV lk_RX5_118 li_X5_noSample ls_X5_noSample ln_RX5 lc_X5_noSample) hV_X5_noSample (k_X5_noSample l D cI cO a R s f k) rfl 0 5 rfl rfl mc_0 ⟨(Nat.le_of_ble_eq_true rfl), (Nat.le_of_ble_eq_true rfl)⟩ ⟨rfl, rfl⟩ hl.1 rfl (Nat.le_of_ble_eq_true rfl) ⟨Nat.zero_le _, Nat.zero_le _⟩ dX5_setInput_12 (fun H locs (w : Wd D (kT cI cO) (va_A _ _) _ _ (mW cI cO a s f R) H locs) => ?_)
    refine x_eqi (x := o_X5_noSample s f k) (y := noS s k) rfl ?_
    refine lv_if_ne (tgt := 29) S.1 S.2.1 dX5_setInput_15 (by decide) (fun (c_2 : ¬ (noS s k) = 0) => ?_) (fun (c_2 : (noS s k) = 0) => ?_)
    · refine x_ldc S lk_RX5_117 dX5_setInput_29 ?_
      exact x_reti S w hr hlk dX5_setInput_31 (show (-2000000001) = (o_X5_setInput s f N k v).1 from by simp only [o_X5_setInput, if_pos c_1, if_neg c_2]) (show mW cI cO a s f R = mW cI cO a s (o_X5_setInput s f N k v).2 R from by simp only [o_X5_setInput, if_pos c_1, if_neg c_2])
    · have hj := noS_j hN h4 h48 c_2
      refine lv_iload_n S.1 S.2.1 dX5_setInput_18 rfl (lv_at hl 2 rfl) ?_
      refine x_ldc S lk_RX5_122 dX5_setInput_19 ?_
      refine x_ldc S lk_RX5_63 dX5_setInput_21 ?_
      refine x_Si (As := [.int v, .int (-1000000), .int 1000000]) (rest := []) S w (goodS lk_RX5_113 lt_X5_in ln_RX5 lc_X5_in) hd_X5_in (k_X5_in l _ _ (mW cI cO a s f R) v (-1000000) 1000000) rfl ⟨(Nat.le_of_ble_eq_true rfl), (Nat.le_of_ble_eq_true rfl)⟩ ⟨rfl, rfl⟩ hl.1 rfl (Nat.le_of_ble_eq_true rfl) ⟨Nat.zero_le _, Nat.zero_le _⟩ dX5_setInput_23 (fun H locs (w : Wd D (kT cI cO) (va_A _ _) _ _ (mW cI cO a s f R) H locs) => ?_)
      refine lv_if_ne (tgt := 32) S.1 S.2.1 dX5_setInput_26 (by decide) (fun (c_3 : ¬ (wIn v (-1000000) 1000000) = 0) => ?_) (fun (c_3 : (wIn v (-1000000) 1000000) = 0) => ?_)
      · refine lv_aload_n S.1 S.2.1 dX5_setInput_32 rfl (lv_at hl 0 rfl) ?_
        refine mr_2 S w lk_RX5_13 dX5_setInput_33 ?_
        refine lv_iload_n S.1 S.2.1 dX5_setInput_36 rfl (lv_at hl 1 rfl) ?_
        refine x_iald S w 2 0 (g := f 1) (v := (f 1) (Int32.toNatClampNeg k)) (Int32.toNatClampNeg k) (by have := hj.1; omega) (hj.2) (Nat.le_of_ble_eq_true rfl) (mc_2) rfl (rfl) dX5_setInput_37 ?_
        refine lv_istore_n (lv' := [(3, .int ((f 1) (Int32.toNatClampNeg k))), (0, .ref (a 0)), (1, .int k), (2, .int v)]) S.1 S.2.1 dX5_setInput_38 rfl hl (by decide) rfl (fun ls hl => ?_)
        refine lv_aload_n S.1 S.2.1 dX5_setInput_39 rfl (lv_at hl 1 rfl) ?_
        refine mr_2 S w lk_RX5_13 dX5_setInput_40 ?_
        refine lv_iload_n S.1 S.2.1 dX5_setInput_43 rfl (lv_at hl 2 rfl) ?_
        refine lv_iload_n S.1 S.2.1 dX5_setInput_44 rfl (lv_at hl 3 rfl) ?_
        refine x_iast S w 2 0 (g := f 1) (Int32.toNatClampNeg k) (by have := hj.1; omega) (hj.2) (Nat.le_of_ble_eq_true rfl) (mc_2) rfl (ms_1) dX5_setInput_45 (fun H locs (w : Wd D (kT cI cO) (va_A _ _) _ _ (mW cI cO a s (va_up f 1 (upd (f 1) (Int32.toNatClampNeg k) v)) R) H locs) => ?_)
        refine lv_iload_n S.1 S.2.1 dX5_setInput_46 rfl (lv_at hl 0 rfl) ?_
        exact x_reti S w hr hlk dX5_setInput_47 (show (f 1) (Int32.toNatClampNeg k) = (o_X5_setInput s f N k v).1 from by simp only [o_X5_setInput, if_pos c_1, if_pos c_2, if_neg c_3]) (show mW cI cO a s (va_up f 1 (upd (f 1) (Int32.toNatClampNeg k) v)) R = mW cI cO a s (o_X5_setInput s f N k v).2 R from by simp only [o_X5_setInput, if_pos c_1, if_pos c_2, if_neg c_3])
      · refine x_ldc S lk_RX5_117 dX5_setInput_29 ?_
        exact x_reti S w hr hlk dX5_setInput_31 (show (-2000000001) = (o_X5_setInput s f N k v).1 from by simp only [o_X5_setInput, if_pos c_1, if_pos c_2, if_pos c_3]) (show mW cI cO a s f R = mW cI cO a s (o_X5_setInput s f N k v).2 R from by simp only [o_X5_setInput, if_pos c_1, if_pos c_2, if_pos c_3])
  · refine x_ldc S lk_RX5_164 dX5_setInput_7 ?_
    exact x_reti S w hr hlk dX5_setInput_9 (show (-2000000002) = (o_X5_setInput s f N k v).1 from by simp only [o_X5_setInput, if_neg c_1]) (show mW cI cO a s f R = mW cI cO a s (o_X5_setInput s f N k v).2 R from by simp only [o_X5_setInput, if_neg c_1])
def o_X5_reference (s : Nat → Int32) (f : Nat → Nat → Int32) (N : Nat) (k : Int32) : Int32 := if (noS s k) = 0 then (f 0) (Int32.toNatClampNeg k) else (-2000000001)
set_option maxHeartbeats 4000000 in
set_option maxRecDepth 100000 in
theorem k_X5_reference (l : Launch) (D : va_G) (cI cO : ClassId) (a : Nat → Nat) (R : va_W) (s : Nat → Int32) (f : Nat → Nat → Int32) (N : Nat) (k : Int32) (hN : s 0 = nI N) (h4 : 4 ≤ N) (h48 : N ≤ 48) : Mi l yX5_reference cX5_reference 2 (some .int) { frames := 2, cells := 0, slots := 0, locals := 43 } D (kT cI cO) (mW cI cO a s f R) [.ref (a 0), .int k] (mW cI cO a s f R) (o_X5_reference s f N k) := by
  intro sz
  refine ent (by decide +kernel) (Nat.le_of_ble_eq_true rfl) ?_
  intro p e st m below meth c ls S hr hlk hnm w hsz hl
  have hl : lv_has ls 2 [(0, .ref (a 0)), (1, .int k)] := hl
  refine lv_aload_n S.1 S.2.1 dX5_reference_0 rfl (lv_at hl 0 rfl) ?_
  refine lv_iload_n S.1 S.2.1 dX5_reference_1 rfl (lv_at hl 1 rfl) ?_
  refine x_Vi (As := [.int k]) (rest := []) S w (goodV lk_RX5_118 li_X5_noSample ls_X5_noSample ln_RX5 lc_X5_noSample) hV_X5_noSample (k_X5_noSample l D cI cO a R s f k) rfl 0 5 rfl rfl mc_0 ⟨(Nat.le_of_ble_eq_true rfl), (Nat.le_of_ble_eq_true rfl)⟩ ⟨rfl, rfl⟩ hl.1 rfl (Nat.le_of_ble_eq_true rfl) ⟨Nat.zero_le _, Nat.zero_le _⟩ dX5_reference_2 (fun H locs (w : Wd D (kT cI cO) (va_A _ _) _ _ (mW cI cO a s f R) H locs) => ?_)
  refine x_eqi (x := o_X5_noSample s f k) (y := noS s k) rfl ?_
  refine lv_if_eq (tgt := 13) S.1 S.2.1 dX5_reference_5 (by decide) (fun (c_1 : (noS s k) = 0) => ?_) (fun (c_1 : ¬ ((noS s k) = 0)) => ?_)
  · have hj := noS_j hN h4 h48 c_1
    refine lv_aload_n S.1 S.2.1 dX5_reference_13 rfl (lv_at hl 0 rfl) ?_
    refine mr_1 S w lk_RX5_7 dX5_reference_14 ?_
    refine lv_iload_n S.1 S.2.1 dX5_reference_17 rfl (lv_at hl 1 rfl) ?_
    refine x_iald S w 1 0 (g := f 0) (v := (f 0) (Int32.toNatClampNeg k)) (Int32.toNatClampNeg k) (by have := hj.1; omega) (hj.2) (Nat.le_of_ble_eq_true rfl) (mc_1) rfl (rfl) dX5_reference_18 ?_
    exact x_reti S w hr hlk dX5_reference_19 (show (f 0) (Int32.toNatClampNeg k) = o_X5_reference s f N k from by simp only [o_X5_reference, if_pos c_1]) (show mW cI cO a s f R = mW cI cO a s f R from rfl)
  · refine x_ldc S lk_RX5_117 dX5_reference_8 ?_
    refine lv_goto (tgt := 19) S.1 S.2.1 dX5_reference_10 (by decide) ?_
    exact x_reti S w hr hlk dX5_reference_19 (show (-2000000001) = o_X5_reference s f N k from by simp only [o_X5_reference, if_neg c_1]) (show mW cI cO a s f R = mW cI cO a s f R from rfl)
def o_X5_count (s : Nat → Int32) (f : Nat → Nat → Int32) (q : Int32) : Int32 := if q = 0 then s 13 else if q = 1 then s 19 else if q = 2 then s 14 else if q = 3 then s 15 else if q = 4 then s 16 else (-2000000001)
set_option maxHeartbeats 4000000 in
set_option maxRecDepth 100000 in
theorem k_X5_count (l : Launch) (D : va_G) (cI cO : ClassId) (a : Nat → Nat) (R : va_W) (s : Nat → Int32) (f : Nat → Nat → Int32) (q : Int32) : Mi l yX5_count cX5_count 2 (some .int) { frames := 0, cells := 0, slots := 0, locals := 0 } D (kT cI cO) (mW cI cO a s f R) [.ref (a 0), .int q] (mW cI cO a s f R) (o_X5_count s f q) := by
  intro sz
  refine ent (by decide +kernel) (Nat.le_of_ble_eq_true rfl) ?_
  intro p e st m below meth c ls S hr hlk hnm w hsz hl
  have hl : lv_has ls 2 [(0, .ref (a 0)), (1, .int q)] := hl
  refine lv_iload_n S.1 S.2.1 dX5_count_0 rfl (lv_at hl 1 rfl) ?_
  by_cases c_1 : q = 0
  · refine lv_tableIn (off := 35) (tgt := 36) S.1 S.2.1 dX5_count_1 (by rw [c_1]; decide) (by rw [c_1]; decide) (by rw [c_1]; decide) (by decide) ?_
    refine lv_aload_n S.1 S.2.1 dX5_count_36 rfl (lv_at hl 0 rfl) ?_
    refine mg_13 S w lk_RX5_89 dX5_count_37 ?_
    exact x_reti S w hr hlk dX5_count_40 (show s 13 = o_X5_count s f q from by simp only [o_X5_count, if_pos c_1]) (show mW cI cO a s f R = mW cI cO a s f R from rfl)
  by_cases c_2 : q = 1
  · refine lv_tableIn (off := 40) (tgt := 41) S.1 S.2.1 dX5_count_1 (by rw [c_2]; decide) (by rw [c_2]; decide) (by rw [c_2]; decide) (by decide) ?_
    refine lv_aload_n S.1 S.2.1 dX5_count_41 rfl (lv_at hl 0 rfl) ?_
    refine mg_19 S w lk_RX5_92 dX5_count_42 ?_
    exact x_reti S w hr hlk dX5_count_45 (show s 19 = o_X5_count s f q from by simp only [o_X5_count, if_neg c_1, if_pos c_2]) (show mW cI cO a s f R = mW cI cO a s f R from rfl)
  by_cases c_3 : q = 2
  · refine lv_tableIn (off := 45) (tgt := 46) S.1 S.2.1 dX5_count_1 (by rw [c_3]; decide) (by rw [c_3]; decide) (by rw [c_3]; decide) (by decide) ?_
    refine lv_aload_n S.1 S.2.1 dX5_count_46 rfl (lv_at hl 0 rfl) ?_
    refine mg_14 S w lk_RX5_95 dX5_count_47 ?_
    exact x_reti S w hr hlk dX5_count_50 (show s 14 = o_X5_count s f q from by simp only [o_X5_count, if_neg c_1, if_neg c_2, if_pos c_3]) (show mW cI cO a s f R = mW cI cO a s f R from rfl)
  by_cases c_4 : q = 3
  · refine lv_tableIn (off := 50) (tgt := 51) S.1 S.2.1 dX5_count_1 (by rw [c_4]; decide) (by rw [c_4]; decide) (by rw [c_4]; decide) (by decide) ?_
    refine lv_aload_n S.1 S.2.1 dX5_count_51 rfl (lv_at hl 0 rfl) ?_
    refine mg_15 S w lk_RX5_98 dX5_count_52 ?_
    exact x_reti S w hr hlk dX5_count_55 (show s 15 = o_X5_count s f q from by simp only [o_X5_count, if_neg c_1, if_neg c_2, if_neg c_3, if_pos c_4]) (show mW cI cO a s f R = mW cI cO a s f R from rfl)
  by_cases c_5 : q = 4
  · refine lv_tableIn (off := 55) (tgt := 56) S.1 S.2.1 dX5_count_1 (by rw [c_5]; decide) (by rw [c_5]; decide) (by rw [c_5]; decide) (by decide) ?_
    refine lv_aload_n S.1 S.2.1 dX5_count_56 rfl (lv_at hl 0 rfl) ?_
    refine mg_16 S w lk_RX5_101 dX5_count_57 ?_
    exact x_reti S w hr hlk dX5_count_60 (show s 16 = o_X5_count s f q from by simp only [o_X5_count, if_neg c_1, if_neg c_2, if_neg c_3, if_neg c_4, if_pos c_5]) (show mW cI cO a s f R = mW cI cO a s f R from rfl)
  refine lv_tableOut (tgt := 61) S.1 S.2.1 dX5_count_1 (x_tout5 c_1 c_2 c_3 c_4 c_5) (by decide) ?_
  refine x_ldc S lk_RX5_117 dX5_count_61 ?_
  exact x_reti S w hr hlk dX5_count_63 (show (-2000000001) = o_X5_count s f q from by simp only [o_X5_count, if_neg c_1, if_neg c_2, if_neg c_3, if_neg c_4, if_neg c_5]) (show mW cI cO a s f R = mW cI cO a s f R from rfl)
def o_X5_best (s : Nat → Int32) (f : Nat → Nat → Int32) (q : Int32) : Int32 := if (wIn q 0 1) = 0 then (-2000000001) else if 0 ≤ (s 22) then if q = 0 then s 21 else s 22 else (-2000000004)
set_option maxHeartbeats 4000000 in
set_option maxRecDepth 100000 in
theorem k_X5_best (l : Launch) (D : va_G) (cI cO : ClassId) (a : Nat → Nat) (R : va_W) (s : Nat → Int32) (f : Nat → Nat → Int32) (q : Int32) : Mi l yX5_best cX5_best 2 (some .int) { frames := 1, cells := 0, slots := 0, locals := 22 } D (kT cI cO) (mW cI cO a s f R) [.ref (a 0), .int q] (mW cI cO a s f R) (o_X5_best s f q) := by
  intro sz
  refine ent (by decide +kernel) (Nat.le_of_ble_eq_true rfl) ?_
  intro p e st m below meth c ls S hr hlk hnm w hsz hl
  have hl : lv_has ls 2 [(0, .ref (a 0)), (1, .int q)] := hl
  refine lv_iload_n S.1 S.2.1 dX5_best_0 rfl (lv_at hl 1 rfl) ?_
  refine lv_iconst (v := 0) S.1 S.2.1 dX5_best_1 (by decide) ?_
  refine lv_iconst (v := 1) S.1 S.2.1 dX5_best_2 (by decide) ?_
  refine x_Si (As := [.int q, .int 0, .int 1]) (rest := []) S w (goodS lk_RX5_113 lt_X5_in ln_RX5 lc_X5_in) hd_X5_in (k_X5_in l _ _ (mW cI cO a s f R) q 0 1) rfl ⟨(Nat.le_of_ble_eq_true rfl), (Nat.le_of_ble_eq_true rfl)⟩ ⟨rfl, rfl⟩ hl.1 rfl (Nat.le_of_ble_eq_true rfl) ⟨Nat.zero_le _, Nat.zero_le _⟩ dX5_best_3 (fun H locs (w : Wd D (kT cI cO) (va_A _ _) _ _ (mW cI cO a s f R) H locs) => ?_)
  refine lv_if_ne (tgt := 12) S.1 S.2.1 dX5_best_6 (by decide) (fun (c_1 : ¬ (wIn q 0 1) = 0) => ?_) (fun (c_1 : (wIn q 0 1) = 0) => ?_)
  · refine lv_aload_n S.1 S.2.1 dX5_best_12 rfl (lv_at hl 0 rfl) ?_
    refine mg_22 S w lk_RX5_104 dX5_best_13 ?_
    refine lv_if_ge (tgt := 24) S.1 S.2.1 dX5_best_16 (by decide) (fun (c_2 : 0 ≤ (s 22)) => ?_) (fun (c_2 : ¬ (0 ≤ (s 22))) => ?_)
    · refine lv_iload_n S.1 S.2.1 dX5_best_24 rfl (lv_at hl 1 rfl) ?_
      refine lv_if_ne (tgt := 35) S.1 S.2.1 dX5_best_25 (by decide) (fun (c_3 : ¬ q = 0) => ?_) (fun (c_3 : q = 0) => ?_)
      · refine lv_aload_n S.1 S.2.1 dX5_best_35 rfl (lv_at hl 0 rfl) ?_
        refine mg_22 S w lk_RX5_104 dX5_best_36 ?_
        exact x_reti S w hr hlk dX5_best_39 (show s 22 = o_X5_best s f q from by simp only [o_X5_best, if_neg c_1, if_pos c_2, if_neg c_3]) (show mW cI cO a s f R = mW cI cO a s f R from rfl)
      · refine lv_aload_n S.1 S.2.1 dX5_best_28 rfl (lv_at hl 0 rfl) ?_
        refine mg_21 S w lk_RX5_161 dX5_best_29 ?_
        refine lv_goto (tgt := 39) S.1 S.2.1 dX5_best_32 (by decide) ?_
        exact x_reti S w hr hlk dX5_best_39 (show s 21 = o_X5_best s f q from by simp only [o_X5_best, if_neg c_1, if_pos c_2, if_pos c_3]) (show mW cI cO a s f R = mW cI cO a s f R from rfl)
    · refine x_ldc S lk_RX5_169 dX5_best_19 ?_
      refine lv_goto (tgt := 39) S.1 S.2.1 dX5_best_21 (by decide) ?_
      exact x_reti S w hr hlk dX5_best_39 (show (-2000000004) = o_X5_best s f q from by simp only [o_X5_best, if_neg c_1, if_neg c_2]) (show mW cI cO a s f R = mW cI cO a s f R from rfl)
  · refine x_ldc S lk_RX5_117 dX5_best_9 ?_
    exact x_reti S w hr hlk dX5_best_11 (show (-2000000001) = o_X5_best s f q from by simp only [o_X5_best, if_pos c_1]) (show mW cI cO a s f R = mW cI cO a s f R from rfl)
def o_X5_bestInput (s : Nat → Int32) (f : Nat → Nat → Int32) (N : Nat) (k : Int32) : Int32 := if (noS s k) = 0 then if 0 ≤ (s 22) then (f 9) (Int32.toNatClampNeg k) else (-2000000004) else (-2000000001)
set_option maxHeartbeats 4000000 in
set_option maxRecDepth 100000 in
theorem k_X5_bestInput (l : Launch) (D : va_G) (cI cO : ClassId) (a : Nat → Nat) (R : va_W) (s : Nat → Int32) (f : Nat → Nat → Int32) (N : Nat) (k : Int32) (hN : s 0 = nI N) (h4 : 4 ≤ N) (h48 : N ≤ 48) : Mi l yX5_bestInput cX5_bestInput 2 (some .int) { frames := 2, cells := 0, slots := 0, locals := 43 } D (kT cI cO) (mW cI cO a s f R) [.ref (a 0), .int k] (mW cI cO a s f R) (o_X5_bestInput s f N k) := by
  intro sz
  refine ent (by decide +kernel) (Nat.le_of_ble_eq_true rfl) ?_
  intro p e st m below meth c ls S hr hlk hnm w hsz hl
  have hl : lv_has ls 2 [(0, .ref (a 0)), (1, .int k)] := hl
  refine lv_aload_n S.1 S.2.1 dX5_bestInput_0 rfl (lv_at hl 0 rfl) ?_
  refine lv_iload_n S.1 S.2.1 dX5_bestInput_1 rfl (lv_at hl 1 rfl) ?_
  refine x_Vi (As := [.int k]) (rest := []) S w (goodV lk_RX5_118 li_X5_noSample ls_X5_noSample ln_RX5 lc_X5_noSample) hV_X5_noSample (k_X5_noSample l D cI cO a R s f k) rfl 0 5 rfl rfl mc_0 ⟨(Nat.le_of_ble_eq_true rfl), (Nat.le_of_ble_eq_true rfl)⟩ ⟨rfl, rfl⟩ hl.1 rfl (Nat.le_of_ble_eq_true rfl) ⟨Nat.zero_le _, Nat.zero_le _⟩ dX5_bestInput_2 (fun H locs (w : Wd D (kT cI cO) (va_A _ _) _ _ (mW cI cO a s f R) H locs) => ?_)
  refine x_eqi (x := o_X5_noSample s f k) (y := noS s k) rfl ?_
  refine lv_if_eq (tgt := 13) S.1 S.2.1 dX5_bestInput_5 (by decide) (fun (c_1 : (noS s k) = 0) => ?_) (fun (c_1 : ¬ ((noS s k) = 0)) => ?_)
  · have hj := noS_j hN h4 h48 c_1
    refine lv_aload_n S.1 S.2.1 dX5_bestInput_13 rfl (lv_at hl 0 rfl) ?_
    refine mg_22 S w lk_RX5_104 dX5_bestInput_14 ?_
    refine lv_if_ge (tgt := 25) S.1 S.2.1 dX5_bestInput_17 (by decide) (fun (c_2 : 0 ≤ (s 22)) => ?_) (fun (c_2 : ¬ (0 ≤ (s 22))) => ?_)
    · refine lv_aload_n S.1 S.2.1 dX5_bestInput_25 rfl (lv_at hl 0 rfl) ?_
      refine mr_10 S w lk_RX5_37 dX5_bestInput_26 ?_
      refine lv_iload_n S.1 S.2.1 dX5_bestInput_29 rfl (lv_at hl 1 rfl) ?_
      refine x_iald S w 10 0 (g := f 9) (v := (f 9) (Int32.toNatClampNeg k)) (Int32.toNatClampNeg k) (by have := hj.1; omega) (hj.2) (Nat.le_of_ble_eq_true rfl) (mc_10) rfl (rfl) dX5_bestInput_30 ?_
      exact x_reti S w hr hlk dX5_bestInput_31 (show (f 9) (Int32.toNatClampNeg k) = o_X5_bestInput s f N k from by simp only [o_X5_bestInput, if_pos c_1, if_pos c_2]) (show mW cI cO a s f R = mW cI cO a s f R from rfl)
    · refine x_ldc S lk_RX5_169 dX5_bestInput_20 ?_
      refine lv_goto (tgt := 31) S.1 S.2.1 dX5_bestInput_22 (by decide) ?_
      exact x_reti S w hr hlk dX5_bestInput_31 (show (-2000000004) = o_X5_bestInput s f N k from by simp only [o_X5_bestInput, if_pos c_1, if_neg c_2]) (show mW cI cO a s f R = mW cI cO a s f R from rfl)
  · refine x_ldc S lk_RX5_117 dX5_bestInput_8 ?_
    refine lv_goto (tgt := 31) S.1 S.2.1 dX5_bestInput_10 (by decide) ?_
    exact x_reti S w hr hlk dX5_bestInput_31 (show (-2000000001) = o_X5_bestInput s f N k from by simp only [o_X5_bestInput, if_neg c_1]) (show mW cI cO a s f R = mW cI cO a s f R from rfl)
def o_X5_setPlant (s : Nat → Int32) (f : Nat → Nat → Int32) (k : Int32) (v : Int32) : Int32 × (Nat → Nat → Int32) := if (wIn k 0 5) = 0 then ((-2000000001), f) else if (wIn v (-3000) 3000) = 0 then ((-2000000001), f) else ((f 6) (Int32.toNatClampNeg k), va_up f 6 (upd (f 6) (Int32.toNatClampNeg k) v))
set_option maxHeartbeats 4000000 in
set_option maxRecDepth 100000 in
theorem k_X5_setPlant (l : Launch) (D : va_G) (cI cO : ClassId) (a : Nat → Nat) (R : va_W) (s : Nat → Int32) (f : Nat → Nat → Int32) (k : Int32) (v : Int32) : Mi l yX5_setPlant cX5_setPlant 4 (some .int) { frames := 1, cells := 0, slots := 0, locals := 22 } D (kT cI cO) (mW cI cO a s f R) [.ref (a 0), .int k, .int v] (mW cI cO a s (o_X5_setPlant s f k v).2 R) (o_X5_setPlant s f k v).1 := by
  intro sz
  refine ent (by decide +kernel) (Nat.le_of_ble_eq_true rfl) ?_
  intro p e st m below meth c ls S hr hlk hnm w hsz hl
  have hl : lv_has ls 4 [(0, .ref (a 0)), (1, .int k), (2, .int v)] := hl
  refine lv_iload_n S.1 S.2.1 dX5_setPlant_0 rfl (lv_at hl 1 rfl) ?_
  refine lv_iconst (v := 0) S.1 S.2.1 dX5_setPlant_1 (by decide) ?_
  refine lv_iconst (v := 5) S.1 S.2.1 dX5_setPlant_2 (by decide) ?_
  refine x_Si (As := [.int k, .int 0, .int 5]) (rest := []) S w (goodS lk_RX5_113 lt_X5_in ln_RX5 lc_X5_in) hd_X5_in (k_X5_in l _ _ (mW cI cO a s f R) k 0 5) rfl ⟨(Nat.le_of_ble_eq_true rfl), (Nat.le_of_ble_eq_true rfl)⟩ ⟨rfl, rfl⟩ hl.1 rfl (Nat.le_of_ble_eq_true rfl) ⟨Nat.zero_le _, Nat.zero_le _⟩ dX5_setPlant_3 (fun H locs (w : Wd D (kT cI cO) (va_A _ _) _ _ (mW cI cO a s f R) H locs) => ?_)
  refine lv_if_eq (tgt := 22) S.1 S.2.1 dX5_setPlant_6 (by decide) (fun (c_1 : (wIn k 0 5) = 0) => ?_) (fun (c_1 : ¬ ((wIn k 0 5) = 0)) => ?_)
  · refine x_ldc S lk_RX5_117 dX5_setPlant_22 ?_
    exact x_reti S w hr hlk dX5_setPlant_24 (show (-2000000001) = (o_X5_setPlant s f k v).1 from by simp only [o_X5_setPlant, if_pos c_1]) (show mW cI cO a s f R = mW cI cO a s (o_X5_setPlant s f k v).2 R from by simp only [o_X5_setPlant, if_pos c_1])
  · have hj := wIn_ix (n := 5) (by decide) rfl c_1
    refine lv_iload_n S.1 S.2.1 dX5_setPlant_9 rfl (lv_at hl 2 rfl) ?_
    refine lv_sipush (v := (-3000)) S.1 S.2.1 dX5_setPlant_10 (by decide) ?_
    refine lv_sipush (v := 3000) S.1 S.2.1 dX5_setPlant_13 (by decide) ?_
    refine x_Si (As := [.int v, .int (-3000), .int 3000]) (rest := []) S w (goodS lk_RX5_113 lt_X5_in ln_RX5 lc_X5_in) hd_X5_in (k_X5_in l _ _ (mW cI cO a s f R) v (-3000) 3000) rfl ⟨(Nat.le_of_ble_eq_true rfl), (Nat.le_of_ble_eq_true rfl)⟩ ⟨rfl, rfl⟩ hl.1 rfl (Nat.le_of_ble_eq_true rfl) ⟨Nat.zero_le _, Nat.zero_le _⟩ dX5_setPlant_16 (fun H locs (w : Wd D (kT cI cO) (va_A _ _) _ _ (mW cI cO a s f R) H locs) => ?_)
    refine lv_if_ne (tgt := 25) S.1 S.2.1 dX5_setPlant_19 (by decide) (fun (c_2 : ¬ (wIn v (-3000) 3000) = 0) => ?_) (fun (c_2 : (wIn v (-3000) 3000) = 0) => ?_)
    · refine lv_aload_n S.1 S.2.1 dX5_setPlant_25 rfl (lv_at hl 0 rfl) ?_
      refine mr_7 S w lk_RX5_40 dX5_setPlant_26 ?_
      refine lv_iload_n S.1 S.2.1 dX5_setPlant_29 rfl (lv_at hl 1 rfl) ?_
      refine x_iald S w 7 0 (g := f 6) (v := (f 6) (Int32.toNatClampNeg k)) (Int32.toNatClampNeg k) (by have := hj.1; omega) (hj.2) (Nat.le_of_ble_eq_true rfl) (mc_7) rfl (rfl) dX5_setPlant_30 ?_
      refine lv_istore_n (lv' := [(3, .int ((f 6) (Int32.toNatClampNeg k))), (0, .ref (a 0)), (1, .int k), (2, .int v)]) S.1 S.2.1 dX5_setPlant_31 rfl hl (by decide) rfl (fun ls hl => ?_)
      refine lv_aload_n S.1 S.2.1 dX5_setPlant_32 rfl (lv_at hl 1 rfl) ?_
      refine mr_7 S w lk_RX5_40 dX5_setPlant_33 ?_
      refine lv_iload_n S.1 S.2.1 dX5_setPlant_36 rfl (lv_at hl 2 rfl) ?_
      refine lv_iload_n S.1 S.2.1 dX5_setPlant_37 rfl (lv_at hl 3 rfl) ?_
      refine x_iast S w 7 0 (g := f 6) (Int32.toNatClampNeg k) (by have := hj.1; omega) (hj.2) (Nat.le_of_ble_eq_true rfl) (mc_7) rfl (ms_6) dX5_setPlant_38 (fun H locs (w : Wd D (kT cI cO) (va_A _ _) _ _ (mW cI cO a s (va_up f 6 (upd (f 6) (Int32.toNatClampNeg k) v)) R) H locs) => ?_)
      refine lv_iload_n S.1 S.2.1 dX5_setPlant_39 rfl (lv_at hl 0 rfl) ?_
      exact x_reti S w hr hlk dX5_setPlant_40 (show (f 6) (Int32.toNatClampNeg k) = (o_X5_setPlant s f k v).1 from by simp only [o_X5_setPlant, if_neg c_1, if_neg c_2]) (show mW cI cO a s (va_up f 6 (upd (f 6) (Int32.toNatClampNeg k) v)) R = mW cI cO a s (o_X5_setPlant s f k v).2 R from by simp only [o_X5_setPlant, if_neg c_1, if_neg c_2])
    · refine x_ldc S lk_RX5_117 dX5_setPlant_22 ?_
      exact x_reti S w hr hlk dX5_setPlant_24 (show (-2000000001) = (o_X5_setPlant s f k v).1 from by simp only [o_X5_setPlant, if_neg c_1, if_pos c_2]) (show mW cI cO a s f R = mW cI cO a s (o_X5_setPlant s f k v).2 R from by simp only [o_X5_setPlant, if_neg c_1, if_pos c_2])
def o_X5_setDisturbance (s : Nat → Int32) (f : Nat → Nat → Int32) (g : Int32) (d : Int32) : Int32 × (Nat → Int32) := if (wIn g 0 1000) = 0 then ((-2000000001), s) else (s 17, upd (upd s 17 g) 18 d)
set_option maxHeartbeats 4000000 in
set_option maxRecDepth 100000 in
theorem k_X5_setDisturbance (l : Launch) (D : va_G) (cI cO : ClassId) (a : Nat → Nat) (R : va_W) (s : Nat → Int32) (f : Nat → Nat → Int32) (g : Int32) (d : Int32) : Mi l yX5_setDisturbance cX5_setDisturbance 4 (some .int) { frames := 1, cells := 0, slots := 0, locals := 22 } D (kT cI cO) (mW cI cO a s f R) [.ref (a 0), .int g, .int d] (mW cI cO a (o_X5_setDisturbance s f g d).2 f R) (o_X5_setDisturbance s f g d).1 := by
  intro sz
  refine ent (by decide +kernel) (Nat.le_of_ble_eq_true rfl) ?_
  intro p e st m below meth c ls S hr hlk hnm w hsz hl
  have hl : lv_has ls 4 [(0, .ref (a 0)), (1, .int g), (2, .int d)] := hl
  refine lv_iload_n S.1 S.2.1 dX5_setDisturbance_0 rfl (lv_at hl 1 rfl) ?_
  refine lv_iconst (v := 0) S.1 S.2.1 dX5_setDisturbance_1 (by decide) ?_
  refine lv_sipush (v := 1000) S.1 S.2.1 dX5_setDisturbance_2 (by decide) ?_
  refine x_Si (As := [.int g, .int 0, .int 1000]) (rest := []) S w (goodS lk_RX5_113 lt_X5_in ln_RX5 lc_X5_in) hd_X5_in (k_X5_in l _ _ (mW cI cO a s f R) g 0 1000) rfl ⟨(Nat.le_of_ble_eq_true rfl), (Nat.le_of_ble_eq_true rfl)⟩ ⟨rfl, rfl⟩ hl.1 rfl (Nat.le_of_ble_eq_true rfl) ⟨Nat.zero_le _, Nat.zero_le _⟩ dX5_setDisturbance_5 (fun H locs (w : Wd D (kT cI cO) (va_A _ _) _ _ (mW cI cO a s f R) H locs) => ?_)
  refine lv_if_ne (tgt := 14) S.1 S.2.1 dX5_setDisturbance_8 (by decide) (fun (c_1 : ¬ (wIn g 0 1000) = 0) => ?_) (fun (c_1 : (wIn g 0 1000) = 0) => ?_)
  · refine lv_aload_n S.1 S.2.1 dX5_setDisturbance_14 rfl (lv_at hl 0 rfl) ?_
    refine mg_17 S w lk_RX5_107 dX5_setDisturbance_15 ?_
    refine lv_istore_n (lv' := [(3, .int (s 17)), (0, .ref (a 0)), (1, .int g), (2, .int d)]) S.1 S.2.1 dX5_setDisturbance_18 rfl hl (by decide) rfl (fun ls hl => ?_)
    refine lv_aload_n S.1 S.2.1 dX5_setDisturbance_19 rfl (lv_at hl 1 rfl) ?_
    refine lv_iload_n S.1 S.2.1 dX5_setDisturbance_20 rfl (lv_at hl 2 rfl) ?_
    refine mp_17 S w lk_RX5_107 dX5_setDisturbance_21 (fun H locs (w : Wd D (kT cI cO) (va_A _ _) _ _ (mW cI cO a (upd s 17 g) f R) H locs) => ?_)
    refine lv_aload_n S.1 S.2.1 dX5_setDisturbance_24 rfl (lv_at hl 1 rfl) ?_
    refine lv_iload_n S.1 S.2.1 dX5_setDisturbance_25 rfl (lv_at hl 3 rfl) ?_
    refine mp_18 S w lk_RX5_110 dX5_setDisturbance_26 (fun H locs (w : Wd D (kT cI cO) (va_A _ _) _ _ (mW cI cO a (upd (upd s 17 g) 18 d) f R) H locs) => ?_)
    refine lv_iload_n S.1 S.2.1 dX5_setDisturbance_29 rfl (lv_at hl 0 rfl) ?_
    exact x_reti S w hr hlk dX5_setDisturbance_30 (show s 17 = (o_X5_setDisturbance s f g d).1 from by simp only [o_X5_setDisturbance, if_neg c_1]) (show mW cI cO a (upd (upd s 17 g) 18 d) f R = mW cI cO a (o_X5_setDisturbance s f g d).2 f R from by simp only [o_X5_setDisturbance, if_neg c_1])
  · refine x_ldc S lk_RX5_117 dX5_setDisturbance_11 ?_
    exact x_reti S w hr hlk dX5_setDisturbance_13 (show (-2000000001) = (o_X5_setDisturbance s f g d).1 from by simp only [o_X5_setDisturbance, if_pos c_1]) (show mW cI cO a s f R = mW cI cO a (o_X5_setDisturbance s f g d).2 f R from by simp only [o_X5_setDisturbance, if_pos c_1])
/-- the place of sample k of the trial of age g -/
theorem e_ix {A j : Nat} (hA : A ≤ 4) (hj : j < 48) : 48 * nI A + nI j = nI (48 * A + j) := by
  rw [show (48 : Int32) = nI 48 from rfl, pk_mul, nI_add]
def o_X5_error (s : Nat → Int32) (f : Nat → Nat → Int32) (k : Int32) (g : Int32) : Int32 := if (noS s k) = 0 then if (wIn g 0 4) = 0 then (-2000000001) else if (s 19) ≤ g then (-2000000004) else (f 10) (48 * Int32.toNatClampNeg g + Int32.toNatClampNeg k) else (-2000000001)
set_option maxHeartbeats 4000000 in
set_option maxRecDepth 100000 in
theorem k_X5_error (l : Launch) (D : va_G) (cI cO : ClassId) (a : Nat → Nat) (R : va_W) (s : Nat → Int32) (f : Nat → Nat → Int32) (N : Nat) (k : Int32) (g : Int32) (hN : s 0 = nI N) (h4 : 4 ≤ N) (h48 : N ≤ 48) : Mi l yX5_error cX5_error 3 (some .int) { frames := 2, cells := 0, slots := 0, locals := 43 } D (kT cI cO) (mW cI cO a s f R) [.ref (a 0), .int k, .int g] (mW cI cO a s f R) (o_X5_error s f k g) := by
  intro sz
  refine ent (by decide +kernel) (Nat.le_of_ble_eq_true rfl) ?_
  intro p e st m below meth c ls S hr hlk hnm w hsz hl
  have hl : lv_has ls 3 [(0, .ref (a 0)), (1, .int k), (2, .int g)] := hl
  refine lv_aload_n S.1 S.2.1 dX5_error_0 rfl (lv_at hl 0 rfl) ?_
  refine lv_iload_n S.1 S.2.1 dX5_error_1 rfl (lv_at hl 1 rfl) ?_
  refine x_Vi (As := [.int k]) (rest := []) S w (goodV lk_RX5_118 li_X5_noSample ls_X5_noSample ln_RX5 lc_X5_noSample) hV_X5_noSample (k_X5_noSample l D cI cO a R s f k) rfl 0 5 rfl rfl mc_0 ⟨(Nat.le_of_ble_eq_true rfl), (Nat.le_of_ble_eq_true rfl)⟩ ⟨rfl, rfl⟩ hl.1 rfl (Nat.le_of_ble_eq_true rfl) ⟨Nat.zero_le _, Nat.zero_le _⟩ dX5_error_2 (fun H locs (w : Wd D (kT cI cO) (va_A _ _) _ _ (mW cI cO a s f R) H locs) => ?_)
  refine x_eqi (x := o_X5_noSample s f k) (y := noS s k) rfl ?_
  refine lv_if_ne (tgt := 15) S.1 S.2.1 dX5_error_5 (by decide) (fun (c_1 : ¬ (noS s k) = 0) => ?_) (fun (c_1 : (noS s k) = 0) => ?_)
  · refine x_ldc S lk_RX5_117 dX5_error_15 ?_
    exact x_reti S w hr hlk dX5_error_17 (show (-2000000001) = o_X5_error s f k g from by simp only [o_X5_error, if_neg c_1]) (show mW cI cO a s f R = mW cI cO a s f R from rfl)
  · have hj := noS_j hN h4 h48 c_1
    refine lv_iload_n S.1 S.2.1 dX5_error_8 rfl (lv_at hl 2 rfl) ?_
    refine x_Si (As := [.int g]) (rest := []) S w (goodS lk_RX5_170 lt_X5_isAge ln_RX5 lc_X5_isAge) hd_X5_isAge (k_X5_isAge l _ _ (mW cI cO a s f R) g) rfl ⟨(Nat.le_of_ble_eq_true rfl), (Nat.le_of_ble_eq_true rfl)⟩ ⟨rfl, rfl⟩ hl.1 rfl (Nat.le_of_ble_eq_true rfl) ⟨Nat.zero_le _, Nat.zero_le _⟩ dX5_error_9 (fun H locs (w : Wd D (kT cI cO) (va_A _ _) _ _ (mW cI cO a s f R) H locs) => ?_)
    refine x_eqi (x := o_X5_isAge g) (y := wIn g 0 4) rfl ?_
    refine lv_if_ne (tgt := 18) S.1 S.2.1 dX5_error_12 (by decide) (fun (c_2 : ¬ (wIn g 0 4) = 0) => ?_) (fun (c_2 : (wIn g 0 4) = 0) => ?_)
    · have hg := wIn_ix (n := 4) (by decide) rfl c_2
      refine lv_iload_n S.1 S.2.1 dX5_error_18 rfl (lv_at hl 2 rfl) ?_
      refine lv_aload_n S.1 S.2.1 dX5_error_19 rfl (lv_at hl 0 rfl) ?_
      refine mg_19 S w lk_RX5_92 dX5_error_20 ?_
      refine lv_icmp_ge (tgt := 40) S.1 S.2.1 dX5_error_23 (by decide) (fun (c_3 : (s 19) ≤ g) => ?_) (fun (c_3 : ¬ ((s 19) ≤ g)) => ?_)
      · refine x_ldc S lk_RX5_169 dX5_error_40 ?_
        exact x_reti S w hr hlk dX5_error_42 (show (-2000000004) = o_X5_error s f k g from by simp only [o_X5_error, if_pos c_1, if_neg c_2, if_pos c_3]) (show mW cI cO a s f R = mW cI cO a s f R from rfl)
      · refine lv_aload_n S.1 S.2.1 dX5_error_26 rfl (lv_at hl 0 rfl) ?_
        refine mr_11 S w lk_RX5_25 dX5_error_27 ?_
        refine lv_bipush (v := 48) S.1 S.2.1 dX5_error_30 (by decide) ?_
        refine lv_iload_n S.1 S.2.1 dX5_error_32 rfl (lv_at hl 2 rfl) ?_
        refine lv_imul S.1 S.2.1 dX5_error_33 ?_
        refine lv_iload_n S.1 S.2.1 dX5_error_34 rfl (lv_at hl 1 rfl) ?_
        refine lv_iadd S.1 S.2.1 dX5_error_35 ?_
        refine x_eqi (x := (48 * g) + k) (y := nI (48 * Int32.toNatClampNeg g + Int32.toNatClampNeg k)) (by rw [hg.2, hj.2, nI_clamp (by omega), nI_clamp (by omega)]; exact e_ix (by omega) (by omega)) ?_
        refine x_iald S w 11 0 (g := f 10) (v := (f 10) (48 * Int32.toNatClampNeg g + Int32.toNatClampNeg k)) (48 * Int32.toNatClampNeg g + Int32.toNatClampNeg k) (by omega) (rfl) (Nat.le_of_ble_eq_true rfl) (mc_11) rfl (rfl) dX5_error_36 ?_
        refine lv_goto (tgt := 42) S.1 S.2.1 dX5_error_37 (by decide) ?_
        exact x_reti S w hr hlk dX5_error_42 (show (f 10) (48 * Int32.toNatClampNeg g + Int32.toNatClampNeg k) = o_X5_error s f k g from by simp only [o_X5_error, if_pos c_1, if_neg c_2, if_neg c_3]) (show mW cI cO a s f R = mW cI cO a s f R from rfl)
    · refine x_ldc S lk_RX5_117 dX5_error_15 ?_
      exact x_reti S w hr hlk dX5_error_17 (show (-2000000001) = o_X5_error s f k g from by simp only [o_X5_error, if_pos c_1, if_pos c_2]) (show mW cI cO a s f R = mW cI cO a s f R from rfl)
def o_X5_norm (s : Nat → Int32) (f : Nat → Nat → Int32) (g : Int32) : Int32 := if (wIn g 0 4) = 0 then (-2000000001) else if (s 19) ≤ g then (-2000000004) else (f 7) (Int32.toNatClampNeg g)
set_option maxHeartbeats 4000000 in
set_option maxRecDepth 100000 in
theorem k_X5_norm (l : Launch) (D : va_G) (cI cO : ClassId) (a : Nat → Nat) (R : va_W) (s : Nat → Int32) (f : Nat → Nat → Int32) (g : Int32) : Mi l yX5_norm cX5_norm 2 (some .int) { frames := 2, cells := 0, slots := 0, locals := 42 } D (kT cI cO) (mW cI cO a s f R) [.ref (a 0), .int g] (mW cI cO a s f R) (o_X5_norm s f g) := by
  intro sz
  refine ent (by decide +kernel) (Nat.le_of_ble_eq_true rfl) ?_
  intro p e st m below meth c ls S hr hlk hnm w hsz hl
  have hl : lv_has ls 2 [(0, .ref (a 0)), (1, .int g)] := hl
  refine lv_iload_n S.1 S.2.1 dX5_norm_0 rfl (lv_at hl 1 rfl) ?_
  refine x_Si (As := [.int g]) (rest := []) S w (goodS lk_RX5_170 lt_X5_isAge ln_RX5 lc_X5_isAge) hd_X5_isAge (k_X5_isAge l _ _ (mW cI cO a s f R) g) rfl ⟨(Nat.le_of_ble_eq_true rfl), (Nat.le_of_ble_eq_true rfl)⟩ ⟨rfl, rfl⟩ hl.1 rfl (Nat.le_of_ble_eq_true rfl) ⟨Nat.zero_le _, Nat.zero_le _⟩ dX5_norm_1 (fun H locs (w : Wd D (kT cI cO) (va_A _ _) _ _ (mW cI cO a s f R) H locs) => ?_)
  refine x_eqi (x := o_X5_isAge g) (y := wIn g 0 4) rfl ?_
  refine lv_if_ne (tgt := 12) S.1 S.2.1 dX5_norm_4 (by decide) (fun (c_1 : ¬ (wIn g 0 4) = 0) => ?_) (fun (c_1 : (wIn g 0 4) = 0) => ?_)
  · have hg := wIn_ix (n := 4) (by decide) rfl c_1
    refine lv_iload_n S.1 S.2.1 dX5_norm_12 rfl (lv_at hl 1 rfl) ?_
    refine lv_aload_n S.1 S.2.1 dX5_norm_13 rfl (lv_at hl 0 rfl) ?_
    refine mg_19 S w lk_RX5_92 dX5_norm_14 ?_
    refine lv_icmp_ge (tgt := 29) S.1 S.2.1 dX5_norm_17 (by decide) (fun (c_2 : (s 19) ≤ g) => ?_) (fun (c_2 : ¬ ((s 19) ≤ g)) => ?_)
    · refine x_ldc S lk_RX5_169 dX5_norm_29 ?_
      exact x_reti S w hr hlk dX5_norm_31 (show (-2000000004) = o_X5_norm s f g from by simp only [o_X5_norm, if_neg c_1, if_pos c_2]) (show mW cI cO a s f R = mW cI cO a s f R from rfl)
    · refine lv_aload_n S.1 S.2.1 dX5_norm_20 rfl (lv_at hl 0 rfl) ?_
      refine mr_8 S w lk_RX5_28 dX5_norm_21 ?_
      refine lv_iload_n S.1 S.2.1 dX5_norm_24 rfl (lv_at hl 1 rfl) ?_
      refine x_iald S w 8 0 (g := f 7) (v := (f 7) (Int32.toNatClampNeg g)) (Int32.toNatClampNeg g) (by omega) (hg.2) (Nat.le_of_ble_eq_true rfl) (mc_8) rfl (rfl) dX5_norm_25 ?_
      refine lv_goto (tgt := 31) S.1 S.2.1 dX5_norm_26 (by decide) ?_
      exact x_reti S w hr hlk dX5_norm_31 (show (f 7) (Int32.toNatClampNeg g) = o_X5_norm s f g from by simp only [o_X5_norm, if_neg c_1, if_neg c_2]) (show mW cI cO a s f R = mW cI cO a s f R from rfl)
  · refine x_ldc S lk_RX5_117 dX5_norm_7 ?_
    refine lv_goto (tgt := 31) S.1 S.2.1 dX5_norm_9 (by decide) ?_
    exact x_reti S w hr hlk dX5_norm_31 (show (-2000000001) = o_X5_norm s f g from by simp only [o_X5_norm, if_pos c_1]) (show mW cI cO a s f R = mW cI cO a s f R from rfl)
def o_X5_shift (s : Nat → Int32) (f : Nat → Nat → Int32) (g : Int32) : Int32 := if (wIn g 0 4) = 0 then (-2000000001) else if (s 19) ≤ g then (-2000000004) else (f 8) (Int32.toNatClampNeg g)
set_option maxHeartbeats 4000000 in
set_option maxRecDepth 100000 in
theorem k_X5_shift (l : Launch) (D : va_G) (cI cO : ClassId) (a : Nat → Nat) (R : va_W) (s : Nat → Int32) (f : Nat → Nat → Int32) (g : Int32) : Mi l yX5_shift cX5_shift 2 (some .int) { frames := 2, cells := 0, slots := 0, locals := 42 } D (kT cI cO) (mW cI cO a s f R) [.ref (a 0), .int g] (mW cI cO a s f R) (o_X5_shift s f g) := by
  intro sz
  refine ent (by decide +kernel) (Nat.le_of_ble_eq_true rfl) ?_
  intro p e st m below meth c ls S hr hlk hnm w hsz hl
  have hl : lv_has ls 2 [(0, .ref (a 0)), (1, .int g)] := hl
  refine lv_iload_n S.1 S.2.1 dX5_shift_0 rfl (lv_at hl 1 rfl) ?_
  refine x_Si (As := [.int g]) (rest := []) S w (goodS lk_RX5_170 lt_X5_isAge ln_RX5 lc_X5_isAge) hd_X5_isAge (k_X5_isAge l _ _ (mW cI cO a s f R) g) rfl ⟨(Nat.le_of_ble_eq_true rfl), (Nat.le_of_ble_eq_true rfl)⟩ ⟨rfl, rfl⟩ hl.1 rfl (Nat.le_of_ble_eq_true rfl) ⟨Nat.zero_le _, Nat.zero_le _⟩ dX5_shift_1 (fun H locs (w : Wd D (kT cI cO) (va_A _ _) _ _ (mW cI cO a s f R) H locs) => ?_)
  refine x_eqi (x := o_X5_isAge g) (y := wIn g 0 4) rfl ?_
  refine lv_if_ne (tgt := 12) S.1 S.2.1 dX5_shift_4 (by decide) (fun (c_1 : ¬ (wIn g 0 4) = 0) => ?_) (fun (c_1 : (wIn g 0 4) = 0) => ?_)
  · have hg := wIn_ix (n := 4) (by decide) rfl c_1
    refine lv_iload_n S.1 S.2.1 dX5_shift_12 rfl (lv_at hl 1 rfl) ?_
    refine lv_aload_n S.1 S.2.1 dX5_shift_13 rfl (lv_at hl 0 rfl) ?_
    refine mg_19 S w lk_RX5_92 dX5_shift_14 ?_
    refine lv_icmp_ge (tgt := 29) S.1 S.2.1 dX5_shift_17 (by decide) (fun (c_2 : (s 19) ≤ g) => ?_) (fun (c_2 : ¬ ((s 19) ≤ g)) => ?_)
    · refine x_ldc S lk_RX5_169 dX5_shift_29 ?_
      exact x_reti S w hr hlk dX5_shift_31 (show (-2000000004) = o_X5_shift s f g from by simp only [o_X5_shift, if_neg c_1, if_pos c_2]) (show mW cI cO a s f R = mW cI cO a s f R from rfl)
    · refine lv_aload_n S.1 S.2.1 dX5_shift_20 rfl (lv_at hl 0 rfl) ?_
      refine mr_9 S w lk_RX5_31 dX5_shift_21 ?_
      refine lv_iload_n S.1 S.2.1 dX5_shift_24 rfl (lv_at hl 1 rfl) ?_
      refine x_iald S w 9 0 (g := f 8) (v := (f 8) (Int32.toNatClampNeg g)) (Int32.toNatClampNeg g) (by omega) (hg.2) (Nat.le_of_ble_eq_true rfl) (mc_9) rfl (rfl) dX5_shift_25 ?_
      refine lv_goto (tgt := 31) S.1 S.2.1 dX5_shift_26 (by decide) ?_
      exact x_reti S w hr hlk dX5_shift_31 (show (f 8) (Int32.toNatClampNeg g) = o_X5_shift s f g from by simp only [o_X5_shift, if_neg c_1, if_neg c_2]) (show mW cI cO a s f R = mW cI cO a s f R from rfl)
  · refine x_ldc S lk_RX5_117 dX5_shift_7 ?_
    refine lv_goto (tgt := 31) S.1 S.2.1 dX5_shift_9 (by decide) ?_
    exact x_reti S w hr hlk dX5_shift_31 (show (-2000000001) = o_X5_shift s f g from by simp only [o_X5_shift, if_pos c_1]) (show mW cI cO a s f R = mW cI cO a s f R from rfl)
def o_X5_worstSample_25 (s : Nat → Int32) (f : Nat → Nat → Int32) (N : Nat) (g : Int32) : Int32 := nI (wst (fun y => f 10 (48 * Int32.toNatClampNeg g + y)) (N - 1))
set_option maxHeartbeats 4000000 in
set_option maxRecDepth 100000 in
theorem j_X5_worstSample_25 {p : Program} {e : Env} {st : State} {m : MethodId} {args : Array Value} {below : List Frame} {meth : Method} {c : Code} {ws0 : va_W} {sz : Nat} (l : Launch) (D : va_G) (cI cO : ClassId) (a : Nat → Nat) (R : va_W) (s : Nat → Int32) (f : Nat → Nat → Int32) (N : Nat) (g : Int32) (hN : s 0 = nI N) (h4 : 4 ≤ N) (h48 : N ≤ 48) (S : CallFix p m c cX5_worstSample 4 st args wsL_law RX5) (hr : meth.sig.returnType = (some .int)) (hlk : meth.locks = false) : ∀ (n : Nat) (i : Nat) (H : Heap) (locs : List Loc) (ls : Array Slot), N ≤ i + n → Int32.toNatClampNeg g ≤ 4 ∧ g = nI (Int32.toNatClampNeg g) → i + 1 ≤ N → Wd D (kT cI cO) (va_A ws0 sz) st.heap st (mW cI cO a s f R) H locs → lv_has ls 4 [(0, .ref (a 0)), (1, .int g), (2, .int (nI (wst (fun y => f 10 (48 * Int32.toNatClampNeg g + y)) i))), (3, .int (nI (i + 1)))] → W p l e { frames := 2, cells := 0, slots := 0, locals := 42 } st m args below meth c H locs 0 0 (MQ below (mQi D (kT cI cO) ws0 sz (mW cI cO a s f R) (o_X5_worstSample_25 s f N g)) args st 0 0 (va_A ws0 sz)) (F0 m 25 ls []) := by
  intro n
  induction n with
  | zero => intro i H locs ls hfu hg hi w hl; exact absurd hfu (by omega)
  | succ n ih =>
    intro i H locs ls hfu hg hi w hl
    refine lv_iload_n S.1 S.2.1 dX5_worstSample_25 rfl (lv_at hl 3 rfl) ?_
    refine lv_aload_n S.1 S.2.1 dX5_worstSample_26 rfl (lv_at hl 0 rfl) ?_
    refine mg_0 S w lk_RX5_47 dX5_worstSample_27 ?_
    refine x_eqi (x := s 0) (y := nI N) (hN) ?_
    refine lv_icmp_ge (tgt := 76) S.1 S.2.1 dX5_worstSample_30 (by decide) (fun (c_1 : (nI N) ≤ (nI (i + 1))) => ?_) (fun (c_1 : ¬ ((nI N) ≤ (nI (i + 1)))) => ?_)
    · have he : i = N - 1 := by
        have := (nI_leI (a := N) (b := i + 1) (by omega) (by omega)).mp c_1
        omega
      subst i
      refine lv_iload_n S.1 S.2.1 dX5_worstSample_76 rfl (lv_at hl 2 rfl) ?_
      exact x_reti S w hr hlk dX5_worstSample_77 (show nI (wst (fun y => f 10 (48 * Int32.toNatClampNeg g + y)) (N - 1)) = o_X5_worstSample_25 s f N g from by simp only [o_X5_worstSample_25]) (show mW cI cO a s f R = mW cI cO a s f R from rfl)
    · have hlt : i + 1 < N := Nat.lt_of_not_le (fun z => c_1 (nI_le z (by omega)))
      have hwl := wst_le (fun y => f 10 (48 * Int32.toNatClampNeg g + y)) i
      refine lv_aload_n S.1 S.2.1 dX5_worstSample_33 rfl (lv_at hl 0 rfl) ?_
      refine mr_11 S w lk_RX5_25 dX5_worstSample_34 ?_
      refine lv_bipush (v := 48) S.1 S.2.1 dX5_worstSample_37 (by decide) ?_
      refine lv_iload_n S.1 S.2.1 dX5_worstSample_39 rfl (lv_at hl 1 rfl) ?_
      refine lv_imul S.1 S.2.1 dX5_worstSample_40 ?_
      refine lv_iload_n S.1 S.2.1 dX5_worstSample_41 rfl (lv_at hl 3 rfl) ?_
      refine lv_iadd S.1 S.2.1 dX5_worstSample_42 ?_
      refine x_eqi (x := (48 * g) + (nI (i + 1))) (y := nI (48 * Int32.toNatClampNeg g + (i + 1))) (by rw [hg.2, nI_clamp (by omega)]; exact e_ix hg.1 (by omega)) ?_
      refine x_iald S w 11 0 (g := f 10) (v := (f 10) (48 * Int32.toNatClampNeg g + (i + 1))) (48 * Int32.toNatClampNeg g + (i + 1)) (by omega) (rfl) (Nat.le_of_ble_eq_true rfl) (mc_11) rfl (rfl) dX5_worstSample_43 ?_
      refine x_Si (As := [.int ((f 10) (48 * Int32.toNatClampNeg g + (i + 1)))]) (rest := []) S w (goodS lk_RX5_140 lt_X5_size ln_RX5 lc_X5_size) hd_X5_size (k_X5_size l _ _ (mW cI cO a s f R) ((f 10) (48 * Int32.toNatClampNeg g + (i + 1)))) rfl ⟨(Nat.le_of_ble_eq_true rfl), (Nat.le_of_ble_eq_true rfl)⟩ ⟨rfl, rfl⟩ hl.1 rfl (Nat.le_of_ble_eq_true rfl) ⟨Nat.zero_le _, Nat.zero_le _⟩ dX5_worstSample_44 (fun H locs (w : Wd D (kT cI cO) (va_A _ _) _ _ (mW cI cO a s f R) H locs) => ?_)
      refine x_eqi (x := o_X5_size ((f 10) (48 * Int32.toNatClampNeg g + (i + 1)))) (y := iabs ((f 10) (48 * Int32.toNatClampNeg g + (i + 1)))) (sz_eq _) ?_
      refine lv_aload_n S.1 S.2.1 dX5_worstSample_47 rfl (lv_at hl 0 rfl) ?_
      refine mr_11 S w lk_RX5_25 dX5_worstSample_48 ?_
      refine lv_bipush (v := 48) S.1 S.2.1 dX5_worstSample_51 (by decide) ?_
      refine lv_iload_n S.1 S.2.1 dX5_worstSample_53 rfl (lv_at hl 1 rfl) ?_
      refine lv_imul S.1 S.2.1 dX5_worstSample_54 ?_
      refine lv_iload_n S.1 S.2.1 dX5_worstSample_55 rfl (lv_at hl 2 rfl) ?_
      refine lv_iadd S.1 S.2.1 dX5_worstSample_56 ?_
      refine x_eqi (x := (48 * g) + (nI (wst (fun y => f 10 (48 * Int32.toNatClampNeg g + y)) i))) (y := nI (48 * Int32.toNatClampNeg g + (wst (fun y => f 10 (48 * Int32.toNatClampNeg g + y)) i))) (by rw [hg.2, nI_clamp (by omega)]; exact e_ix hg.1 (by rw [hg.2, nI_clamp (by omega)] at hwl; omega)) ?_
      refine x_iald S w 11 0 (g := f 10) (v := (f 10) (48 * Int32.toNatClampNeg g + (wst (fun y => f 10 (48 * Int32.toNatClampNeg g + y)) i))) (48 * Int32.toNatClampNeg g + (wst (fun y => f 10 (48 * Int32.toNatClampNeg g + y)) i)) (by omega) (rfl) (Nat.le_of_ble_eq_true rfl) (mc_11) rfl (rfl) dX5_worstSample_57 ?_
      refine x_Si (As := [.int ((f 10) (48 * Int32.toNatClampNeg g + (wst (fun y => f 10 (48 * Int32.toNatClampNeg g + y)) i)))]) (rest := [.int (iabs ((f 10) (48 * Int32.toNatClampNeg g + (i + 1))))]) S w (goodS lk_RX5_140 lt_X5_size ln_RX5 lc_X5_size) hd_X5_size (k_X5_size l _ _ (mW cI cO a s f R) ((f 10) (48 * Int32.toNatClampNeg g + (wst (fun y => f 10 (48 * Int32.toNatClampNeg g + y)) i)))) rfl ⟨(Nat.le_of_ble_eq_true rfl), (Nat.le_of_ble_eq_true rfl)⟩ ⟨rfl, rfl⟩ hl.1 rfl (Nat.le_of_ble_eq_true rfl) ⟨Nat.zero_le _, Nat.zero_le _⟩ dX5_worstSample_58 (fun H locs (w : Wd D (kT cI cO) (va_A _ _) _ _ (mW cI cO a s f R) H locs) => ?_)
      refine x_eqi (x := o_X5_size ((f 10) (48 * Int32.toNatClampNeg g + (wst (fun y => f 10 (48 * Int32.toNatClampNeg g + y)) i)))) (y := iabs ((f 10) (48 * Int32.toNatClampNeg g + (wst (fun y => f 10 (48 * Int32.toNatClampNeg g + y)) i)))) (sz_eq _) ?_
      refine lv_icmp_le (tgt := 68) S.1 S.2.1 dX5_worstSample_61 (by decide) (fun (c_2 : (iabs ((f 10) (48 * Int32.toNatClampNeg g + (i + 1)))) ≤ (iabs ((f 10) (48 * Int32.toNatClampNeg g + (wst (fun y => f 10 (48 * Int32.toNatClampNeg g + y)) i))))) => ?_) (fun (c_2 : ¬ ((iabs ((f 10) (48 * Int32.toNatClampNeg g + (i + 1)))) ≤ (iabs ((f 10) (48 * Int32.toNatClampNeg g + (wst (fun y => f 10 (48 * Int32.toNatClampNeg g + y)) i)))))) => ?_)
      · have hs : wst (fun y => f 10 (48 * Int32.toNatClampNeg g + y)) i = wst (fun y => f 10 (48 * Int32.toNatClampNeg g + y)) (i + 1) := by
          rw [wst, if_neg (Int32.not_lt.mpr c_2)]
        refine lv_iload_n S.1 S.2.1 dX5_worstSample_68 rfl (lv_at hl 2 rfl) ?_
        refine lv_istore_n (lv' := [(2, .int (nI (wst (fun y => f 10 (48 * Int32.toNatClampNeg g + y)) i))), (0, .ref (a 0)), (1, .int g), (3, .int (nI (i + 1)))]) S.1 S.2.1 dX5_worstSample_69 rfl hl (by decide) rfl (fun ls hl => ?_)
        refine lv_iinc (v := nI ((i + 1) + 1)) (lv' := [(3, .int (nI ((i + 1) + 1))), (2, .int (nI (wst (fun y => f 10 (48 * Int32.toNatClampNeg g + y)) i))), (0, .ref (a 0)), (1, .int g)]) S.1 S.2.1 dX5_worstSample_70 hl (k := 3) rfl (x_inc _) (by decide) rfl (fun ls hl => ?_)
        refine lv_goto (tgt := 25) S.1 S.2.1 dX5_worstSample_73 (by decide) ?_
        exact ih (i + 1) _ _ _ (by omega) hg (by omega) w (lv_sub hl [2, 3, 1, 0] (by rw [← hs]; rfl))
      · have hs : i + 1 = wst (fun y => f 10 (48 * Int32.toNatClampNeg g + y)) (i + 1) := by
          rw [wst, if_pos (Int32.not_le.mp c_2)]
        refine lv_iload_n S.1 S.2.1 dX5_worstSample_64 rfl (lv_at hl 3 rfl) ?_
        refine lv_goto (tgt := 69) S.1 S.2.1 dX5_worstSample_65 (by decide) ?_
        refine lv_istore_n (lv' := [(2, .int (nI (i + 1))), (0, .ref (a 0)), (1, .int g), (3, .int (nI (i + 1)))]) S.1 S.2.1 dX5_worstSample_69 rfl hl (by decide) rfl (fun ls hl => ?_)
        refine lv_iinc (v := nI ((i + 1) + 1)) (lv' := [(3, .int (nI ((i + 1) + 1))), (2, .int (nI (i + 1))), (0, .ref (a 0)), (1, .int g)]) S.1 S.2.1 dX5_worstSample_70 hl (k := 3) rfl (x_inc _) (by decide) rfl (fun ls hl => ?_)
        refine lv_goto (tgt := 25) S.1 S.2.1 dX5_worstSample_73 (by decide) ?_
        exact ih (i + 1) _ _ _ (by omega) hg (by omega) w (lv_sub hl [2, 3, 1, 0] (by rw [← hs]; rfl))
def o_X5_worstSample (s : Nat → Int32) (f : Nat → Nat → Int32) (N : Nat) (g : Int32) : Int32 := if (wIn g 0 4) = 0 then (-2000000001) else if g < (s 19) then o_X5_worstSample_25 s f N g else (-2000000004)
set_option maxHeartbeats 4000000 in
set_option maxRecDepth 100000 in
theorem k_X5_worstSample (l : Launch) (D : va_G) (cI cO : ClassId) (a : Nat → Nat) (R : va_W) (s : Nat → Int32) (f : Nat → Nat → Int32) (N : Nat) (g : Int32) (hN : s 0 = nI N) (h4 : 4 ≤ N) (h48 : N ≤ 48) : Mi l yX5_worstSample cX5_worstSample 4 (some .int) { frames := 2, cells := 0, slots := 0, locals := 42 } D (kT cI cO) (mW cI cO a s f R) [.ref (a 0), .int g] (mW cI cO a s f R) (o_X5_worstSample s f N g) := by
  intro sz
  refine ent (by decide +kernel) (Nat.le_of_ble_eq_true rfl) ?_
  intro p e st m below meth c ls S hr hlk hnm w hsz hl
  have hl : lv_has ls 4 [(0, .ref (a 0)), (1, .int g)] := hl
  refine lv_iload_n S.1 S.2.1 dX5_worstSample_0 rfl (lv_at hl 1 rfl) ?_
  refine x_Si (As := [.int g]) (rest := []) S w (goodS lk_RX5_170 lt_X5_isAge ln_RX5 lc_X5_isAge) hd_X5_isAge (k_X5_isAge l _ _ (mW cI cO a s f R) g) rfl ⟨(Nat.le_of_ble_eq_true rfl), (Nat.le_of_ble_eq_true rfl)⟩ ⟨rfl, rfl⟩ hl.1 rfl (Nat.le_of_ble_eq_true rfl) ⟨Nat.zero_le _, Nat.zero_le _⟩ dX5_worstSample_1 (fun H locs (w : Wd D (kT cI cO) (va_A _ _) _ _ (mW cI cO a s f R) H locs) => ?_)
  refine x_eqi (x := o_X5_isAge g) (y := wIn g 0 4) rfl ?_
  refine lv_if_ne (tgt := 10) S.1 S.2.1 dX5_worstSample_4 (by decide) (fun (c_3 : ¬ (wIn g 0 4) = 0) => ?_) (fun (c_3 : (wIn g 0 4) = 0) => ?_)
  · have hg := wIn_ix (n := 4) (by decide) rfl c_3
    refine lv_iload_n S.1 S.2.1 dX5_worstSample_10 rfl (lv_at hl 1 rfl) ?_
    refine lv_aload_n S.1 S.2.1 dX5_worstSample_11 rfl (lv_at hl 0 rfl) ?_
    refine mg_19 S w lk_RX5_92 dX5_worstSample_12 ?_
    refine lv_icmp_lt (tgt := 21) S.1 S.2.1 dX5_worstSample_15 (by decide) (fun (c_4 : g < (s 19)) => ?_) (fun (c_4 : ¬ (g < (s 19))) => ?_)
    · refine lv_iconst (v := 0) S.1 S.2.1 dX5_worstSample_21 (by decide) ?_
      refine lv_istore_n (lv' := [(2, .int 0), (0, .ref (a 0)), (1, .int g)]) S.1 S.2.1 dX5_worstSample_22 rfl hl (by decide) rfl (fun ls hl => ?_)
      refine lv_iconst (v := 1) S.1 S.2.1 dX5_worstSample_23 (by decide) ?_
      refine lv_istore_n (lv' := [(3, .int 1), (2, .int 0), (0, .ref (a 0)), (1, .int g)]) S.1 S.2.1 dX5_worstSample_24 rfl hl (by decide) rfl (fun ls hl => ?_)
      refine x_toi (show o_X5_worstSample_25 s f N g = o_X5_worstSample s f N g from by simp only [o_X5_worstSample, if_neg c_3, if_pos c_4]) (show mW cI cO a s f R = mW cI cO a s f R from by simp only [o_X5_worstSample, if_neg c_3, if_pos c_4]) ?_
      exact j_X5_worstSample_25 l D cI cO a R s f N g hN h4 h48 S hr hlk N 0 _ _ _ (by omega) hg (by omega) w (lv_sub hl [2, 3, 1, 0] rfl)
    · refine x_ldc S lk_RX5_169 dX5_worstSample_18 ?_
      exact x_reti S w hr hlk dX5_worstSample_20 (show (-2000000004) = o_X5_worstSample s f N g from by simp only [o_X5_worstSample, if_neg c_3, if_neg c_4]) (show mW cI cO a s f R = mW cI cO a s f R from rfl)
  · refine x_ldc S lk_RX5_117 dX5_worstSample_7 ?_
    exact x_reti S w hr hlk dX5_worstSample_9 (show (-2000000001) = o_X5_worstSample s f N g from by simp only [o_X5_worstSample, if_pos c_3]) (show mW cI cO a s f R = mW cI cO a s f R from rfl)
def o_X5_energy_37 (s : Nat → Int32) (f : Nat → Nat → Int32) (N : Nat) (g : Int32) : Int64 := sumL (fun y => Int32.toInt64 (f 10 (48 * Int32.toNatClampNeg g + y)) * Int32.toInt64 (f 10 (48 * Int32.toNatClampNeg g + y))) N
set_option maxHeartbeats 4000000 in
set_option maxRecDepth 100000 in
theorem j_X5_energy_37 {p : Program} {e : Env} {st : State} {m : MethodId} {args : Array Value} {below : List Frame} {meth : Method} {c : Code} {ws0 : va_W} {sz : Nat} (l : Launch) (D : va_G) (cI cO : ClassId) (a : Nat → Nat) (R : va_W) (s : Nat → Int32) (f : Nat → Nat → Int32) (N : Nat) (g : Int32) (hN : s 0 = nI N) (h4 : 4 ≤ N) (h48 : N ≤ 48) (S : CallFix p m c cX5_energy 7 st args wsL_law RX5) (hr : meth.sig.returnType = (some .long)) (hlk : meth.locks = false) : ∀ (n : Nat) (i : Nat) (H : Heap) (locs : List Loc) (ls : Array Slot), N + 1 ≤ i + n → Int32.toNatClampNeg g ≤ 4 ∧ g = nI (Int32.toNatClampNeg g) → i ≤ N → Wd D (kT cI cO) (va_A ws0 sz) st.heap st (mW cI cO a s f R) H locs → lv_has ls 7 [(0, .ref (a 0)), (1, .int g), (2, .long (sumL (fun y => Int32.toInt64 (f 10 (48 * Int32.toNatClampNeg g + y)) * Int32.toInt64 (f 10 (48 * Int32.toNatClampNeg g + y))) i)), (4, .int (nI i))] → W p l e { frames := 2, cells := 0, slots := 0, locals := 42 } st m args below meth c H locs 0 0 (MQ below (mQl D (kT cI cO) ws0 sz (mW cI cO a s f R) (o_X5_energy_37 s f N g)) args st 0 0 (va_A ws0 sz)) (F0 m 37 ls []) := by
  intro n
  induction n with
  | zero => intro i H locs ls hfu hg hi w hl; exact absurd hfu (by omega)
  | succ n ih =>
    intro i H locs ls hfu hg hi w hl
    refine lv_iload S.1 S.2.1 dX5_energy_37 (lv_at hl 3 rfl) ?_
    refine lv_aload_n S.1 S.2.1 dX5_energy_39 rfl (lv_at hl 0 rfl) ?_
    refine mg_0 S w lk_RX5_47 dX5_energy_40 ?_
    refine x_eqi (x := s 0) (y := nI N) (hN) ?_
    refine lv_icmp_ge (tgt := 75) S.1 S.2.1 dX5_energy_43 (by decide) (fun (c_1 : (nI N) ≤ (nI i)) => ?_) (fun (c_1 : ¬ ((nI N) ≤ (nI i))) => ?_)
    · have he : i = N := by
        have := (nI_leI (a := N) (b := i) (by omega) (by omega)).mp c_1
        omega
      subst i
      refine lv_lload_n S.1 S.2.1 dX5_energy_75 rfl (lv_at hl 2 rfl) ?_
      exact x_retl S w hr hlk dX5_energy_76 (show sumL (fun y => Int32.toInt64 (f 10 (48 * Int32.toNatClampNeg g + y)) * Int32.toInt64 (f 10 (48 * Int32.toNatClampNeg g + y))) N = o_X5_energy_37 s f N g from by simp only [o_X5_energy_37]) (show mW cI cO a s f R = mW cI cO a s f R from rfl)
    · have hlt : i < N := Nat.lt_of_not_le (fun z => c_1 (nI_le z (by omega)))
      refine lv_aload_n S.1 S.2.1 dX5_energy_46 rfl (lv_at hl 0 rfl) ?_
      refine mr_11 S w lk_RX5_25 dX5_energy_47 ?_
      refine lv_bipush (v := 48) S.1 S.2.1 dX5_energy_50 (by decide) ?_
      refine lv_iload_n S.1 S.2.1 dX5_energy_52 rfl (lv_at hl 1 rfl) ?_
      refine lv_imul S.1 S.2.1 dX5_energy_53 ?_
      refine lv_iload S.1 S.2.1 dX5_energy_54 (lv_at hl 3 rfl) ?_
      refine lv_iadd S.1 S.2.1 dX5_energy_56 ?_
      refine x_eqi (x := (48 * g) + (nI i)) (y := nI (48 * Int32.toNatClampNeg g + i)) (by rw [hg.2, nI_clamp (by omega)]; exact e_ix hg.1 (by omega)) ?_
      refine x_iald S w 11 0 (g := f 10) (v := (f 10) (48 * Int32.toNatClampNeg g + i)) (48 * Int32.toNatClampNeg g + i) (by omega) (rfl) (Nat.le_of_ble_eq_true rfl) (mc_11) rfl (rfl) dX5_energy_57 ?_
      refine lv_i2l S.1 S.2.1 dX5_energy_58 rfl ?_
      refine lv_lstore (lv' := [(5, .long (Int32.toInt64 ((f 10) (48 * Int32.toNatClampNeg g + i)))), (0, .ref (a 0)), (1, .int g), (2, .long (sumL (fun y => Int32.toInt64 (f 10 (48 * Int32.toNatClampNeg g + y)) * Int32.toInt64 (f 10 (48 * Int32.toNatClampNeg g + y))) i)), (4, .int (nI i))]) S.1 S.2.1 dX5_energy_59 hl (by decide) rfl (fun ls hl => ?_)
      refine lv_lload_n S.1 S.2.1 dX5_energy_61 rfl (lv_at hl 3 rfl) ?_
      refine lv_lload S.1 S.2.1 dX5_energy_62 (lv_at hl 0 rfl) ?_
      refine lv_lload S.1 S.2.1 dX5_energy_64 (lv_at hl 0 rfl) ?_
      refine lv_lmul S.1 S.2.1 dX5_energy_66 ?_
      refine lv_ladd S.1 S.2.1 dX5_energy_67 ?_
      refine lv_lstore_n (lv' := [(2, .long ((sumL (fun y => Int32.toInt64 (f 10 (48 * Int32.toNatClampNeg g + y)) * Int32.toInt64 (f 10 (48 * Int32.toNatClampNeg g + y))) i) + ((Int32.toInt64 ((f 10) (48 * Int32.toNatClampNeg g + i))) * (Int32.toInt64 ((f 10) (48 * Int32.toNatClampNeg g + i)))))), (5, .long (Int32.toInt64 ((f 10) (48 * Int32.toNatClampNeg g + i)))), (0, .ref (a 0)), (1, .int g), (4, .int (nI i))]) S.1 S.2.1 dX5_energy_68 rfl hl (by decide) rfl (fun ls hl => ?_)
      refine lv_iinc (v := nI (i + 1)) (lv' := [(4, .int (nI (i + 1))), (2, .long ((sumL (fun y => Int32.toInt64 (f 10 (48 * Int32.toNatClampNeg g + y)) * Int32.toInt64 (f 10 (48 * Int32.toNatClampNeg g + y))) i) + ((Int32.toInt64 ((f 10) (48 * Int32.toNatClampNeg g + i))) * (Int32.toInt64 ((f 10) (48 * Int32.toNatClampNeg g + i)))))), (5, .long (Int32.toInt64 ((f 10) (48 * Int32.toNatClampNeg g + i)))), (0, .ref (a 0)), (1, .int g)]) S.1 S.2.1 dX5_energy_69 hl (k := 4) rfl (x_inc _) (by decide) rfl (fun ls hl => ?_)
      refine lv_goto (tgt := 37) S.1 S.2.1 dX5_energy_72 (by decide) ?_
      exact ih (i + 1) _ _ _ (by omega) hg (by omega) w (lv_sub hl [3, 4, 1, 0] rfl)
def o_X5_energy (s : Nat → Int32) (f : Nat → Nat → Int32) (N : Nat) (g : Int32) : Int64 := if (wIn g 0 4) = 0 then (-1) else if g < (s 19) then o_X5_energy_37 s f N g else (-2)
set_option maxHeartbeats 4000000 in
set_option maxRecDepth 100000 in
theorem k_X5_energy (l : Launch) (D : va_G) (cI cO : ClassId) (a : Nat → Nat) (R : va_W) (s : Nat → Int32) (f : Nat → Nat → Int32) (N : Nat) (g : Int32) (hN : s 0 = nI N) (h4 : 4 ≤ N) (h48 : N ≤ 48) : Ml l yX5_energy cX5_energy 7 (some .long) { frames := 2, cells := 0, slots := 0, locals := 42 } D (kT cI cO) (mW cI cO a s f R) [.ref (a 0), .int g] (mW cI cO a s f R) (o_X5_energy s f N g) := by
  intro sz
  refine ent (by decide +kernel) (Nat.le_of_ble_eq_true rfl) ?_
  intro p e st m below meth c ls S hr hlk hnm w hsz hl
  have hl : lv_has ls 7 [(0, .ref (a 0)), (1, .int g)] := hl
  refine lv_iload_n S.1 S.2.1 dX5_energy_0 rfl (lv_at hl 1 rfl) ?_
  refine x_Si (As := [.int g]) (rest := []) S w (goodS lk_RX5_170 lt_X5_isAge ln_RX5 lc_X5_isAge) hd_X5_isAge (k_X5_isAge l _ _ (mW cI cO a s f R) g) rfl ⟨(Nat.le_of_ble_eq_true rfl), (Nat.le_of_ble_eq_true rfl)⟩ ⟨rfl, rfl⟩ hl.1 rfl (Nat.le_of_ble_eq_true rfl) ⟨Nat.zero_le _, Nat.zero_le _⟩ dX5_energy_1 (fun H locs (w : Wd D (kT cI cO) (va_A _ _) _ _ (mW cI cO a s f R) H locs) => ?_)
  refine x_eqi (x := o_X5_isAge g) (y := wIn g 0 4) rfl ?_
  refine lv_if_eq (tgt := 15) S.1 S.2.1 dX5_energy_4 (by decide) (fun (c_2 : (wIn g 0 4) = 0) => ?_) (fun (c_2 : ¬ ((wIn g 0 4) = 0)) => ?_)
  · refine lv_iload_n S.1 S.2.1 dX5_energy_15 rfl (lv_at hl 1 rfl) ?_
    refine x_Si (As := [.int g]) (rest := []) S w (goodS lk_RX5_170 lt_X5_isAge ln_RX5 lc_X5_isAge) hd_X5_isAge (k_X5_isAge l _ _ (mW cI cO a s f R) g) rfl ⟨(Nat.le_of_ble_eq_true rfl), (Nat.le_of_ble_eq_true rfl)⟩ ⟨rfl, rfl⟩ hl.1 rfl (Nat.le_of_ble_eq_true rfl) ⟨Nat.zero_le _, Nat.zero_le _⟩ dX5_energy_16 (fun H locs (w : Wd D (kT cI cO) (va_A _ _) _ _ (mW cI cO a s f R) H locs) => ?_)
    refine x_eqi (x := o_X5_isAge g) (y := wIn g 0 4) rfl ?_
    refine lv_if_eq (tgt := 28) S.1 S.2.1 dX5_energy_19 (by decide) (fun _ => ?_) (fun z => absurd (c_2 : (wIn g 0 4) = 0) z)
    refine x_ldc2 S lk_RX5_175 dX5_energy_28 ?_
    exact x_retl S w hr hlk dX5_energy_31 (show (-1) = o_X5_energy s f N g from by simp only [o_X5_energy, if_pos c_2]) (show mW cI cO a s f R = mW cI cO a s f R from rfl)
  · have hg := wIn_ix (n := 4) (by decide) rfl c_2
    refine lv_iload_n S.1 S.2.1 dX5_energy_7 rfl (lv_at hl 1 rfl) ?_
    refine lv_aload_n S.1 S.2.1 dX5_energy_8 rfl (lv_at hl 0 rfl) ?_
    refine mg_19 S w lk_RX5_92 dX5_energy_9 ?_
    refine lv_icmp_lt (tgt := 32) S.1 S.2.1 dX5_energy_12 (by decide) (fun (c_4 : g < (s 19)) => ?_) (fun (c_4 : ¬ (g < (s 19))) => ?_)
    · refine lv_lconst (v := 0) S.1 S.2.1 dX5_energy_32 (by decide) ?_
      refine lv_lstore_n (lv' := [(2, .long 0), (0, .ref (a 0)), (1, .int g)]) S.1 S.2.1 dX5_energy_33 rfl hl (by decide) rfl (fun ls hl => ?_)
      refine lv_iconst (v := 0) S.1 S.2.1 dX5_energy_34 (by decide) ?_
      refine lv_istore (lv' := [(4, .int 0), (2, .long 0), (0, .ref (a 0)), (1, .int g)]) S.1 S.2.1 dX5_energy_35 hl (by decide) rfl (fun ls hl => ?_)
      refine x_tol (show o_X5_energy_37 s f N g = o_X5_energy s f N g from by simp only [o_X5_energy, if_neg c_2, if_pos c_4]) (show mW cI cO a s f R = mW cI cO a s f R from by simp only [o_X5_energy, if_neg c_2, if_pos c_4]) ?_
      exact j_X5_energy_37 l D cI cO a R s f N g hN h4 h48 S hr hlk (N + 1) 0 _ _ _ (by omega) hg (by omega) w (lv_sub hl [2, 3, 1, 0] rfl)
    · refine lv_iload_n S.1 S.2.1 dX5_energy_15 rfl (lv_at hl 1 rfl) ?_
      refine x_Si (As := [.int g]) (rest := []) S w (goodS lk_RX5_170 lt_X5_isAge ln_RX5 lc_X5_isAge) hd_X5_isAge (k_X5_isAge l _ _ (mW cI cO a s f R) g) rfl ⟨(Nat.le_of_ble_eq_true rfl), (Nat.le_of_ble_eq_true rfl)⟩ ⟨rfl, rfl⟩ hl.1 rfl (Nat.le_of_ble_eq_true rfl) ⟨Nat.zero_le _, Nat.zero_le _⟩ dX5_energy_16 (fun H locs (w : Wd D (kT cI cO) (va_A _ _) _ _ (mW cI cO a s f R) H locs) => ?_)
      refine x_eqi (x := o_X5_isAge g) (y := wIn g 0 4) rfl ?_
      refine lv_if_eq (tgt := 28) S.1 S.2.1 dX5_energy_19 (by decide) (fun z => absurd z (c_2 : ¬ ((wIn g 0 4) = 0))) (fun _ => ?_)
      refine x_ldc2 S lk_RX5_173 dX5_energy_22 ?_
      refine lv_goto (tgt := 31) S.1 S.2.1 dX5_energy_25 (by decide) ?_
      exact x_retl S w hr hlk dX5_energy_31 (show (-2) = o_X5_energy s f N g from by simp only [o_X5_energy, if_neg c_2, if_neg c_4]) (show mW cI cO a s f R = mW cI cO a s f R from rfl)
