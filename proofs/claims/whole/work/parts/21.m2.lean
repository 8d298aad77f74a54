def stvF (h K : Nat) (er : Nat → Int32) (tol : Int32) (i : Nat) : Int32 := if nI h ≤ nI K then stdy er tol i else 0
theorem stv_0 {h K : Nat} {er : Nat → Int32} {tol : Int32} {i n : Nat} (hi : i ≤ n) (h0 : stvF h K er tol i = 0) : stvF h K er tol n = 0 := by
  unfold stvF at h0 ⊢
  by_cases h1 : nI h ≤ nI K
  · rw [if_pos h1] at h0 ⊢; exact stdy_0 hi h0
  · rw [if_neg h1]
theorem stv_1 {h K : Nat} {er : Nat → Int32} {tol : Int32} {i : Nat} (h0 : ¬ stvF h K er tol i = 0) : nI h ≤ nI K ∧ stdy er tol i = 1 := by
  unfold stvF at h0
  by_cases h1 : nI h ≤ nI K
  · rw [if_pos h1] at h0; exact ⟨h1, (stdy_b _ _ _).resolve_left h0⟩
  · rw [if_neg h1] at h0; exact absurd rfl h0
theorem stv_s1 {h K : Nat} {er : Nat → Int32} {tol : Int32} {i : Nat} (h0 : ¬ stvF h K er tol i = 0) (h1 : iabs (er i) ≤ tol) : stvF h K er tol (i + 1) = 1 := by
  obtain ⟨h2, h3⟩ := stv_1 h0
  unfold stvF; rw [if_pos h2]; exact stdy_s1 h3 h1
theorem stv_s0 {h K : Nat} {er : Nat → Int32} {tol : Int32} {i : Nat} (h0 : ¬ stvF h K er tol i = 0) (h1 : ¬ iabs (er i) ≤ tol) : stvF h K er tol (i + 1) = 0 := by
  obtain ⟨h2, h3⟩ := stv_1 h0
  unfold stvF; rw [if_pos h2]; exact stdy_s0 (Nat.lt_succ_self i) h1
theorem stvF_b (h K : Nat) (er : Nat → Int32) (tol : Int32) (i : Nat) : stvF h K er tol i = 0 ∨ stvF h K er tol i = 1 := by
  unfold stvF
  split
  · exact stdy_b _ _ _
  · exact Or.inl rfl
theorem va_2a {f : Nat → Nat → Int32} {i j : Nat} {P Q P' : Nat → Int32} (h : i ≠ j) : va_up (va_up (va_up f i P) j Q) i P' = va_up (va_up f i P') j Q := by
  funext y
  unfold va_up
  by_cases h1 : y = i
  · subst h1; rw [if_pos rfl, if_neg h, if_pos rfl]
  · rw [if_neg h1, if_neg h1]
    by_cases h2 : y = j
    · rw [if_pos h2, if_pos h2]
    · rw [if_neg h2, if_neg h2, if_neg h1]
theorem va_3a {f : Nat → Nat → Int32} {i j k : Nat} {P Q S P' : Nat → Int32} (h1 : i ≠ j) (h2 : i ≠ k) : va_up (va_up (va_up (va_up f i P) j Q) k S) i P' = va_up (va_up (va_up f i P') j Q) k S := by
  funext y
  unfold va_up
  by_cases h3 : y = i
  · subst h3; rw [if_pos rfl, if_neg h2, if_neg h1, if_pos rfl]
  · rw [if_neg h3, if_neg h3]
    by_cases h4 : y = k
    · rw [if_pos h4, if_pos h4]
    · rw [if_neg h4, if_neg h4, if_neg h3]
theorem va_3b {f : Nat → Nat → Int32} {i j k : Nat} {P Q S Q' : Nat → Int32} (h2 : j ≠ k) : va_up (va_up (va_up (va_up f i P) j Q) k S) j Q' = va_up (va_up (va_up f i P) j Q') k S := va_2a h2
theorem kp_eq {v : Int64} {L : Nat} (h1 : 1 ≤ L) (h6 : L ≤ 1000000) : o_X5_kept v (nI L) = o_X4_limitTo v (nI L) := by
  have e1 : (Int32.toInt64 (nI L)).toInt = L := by rw [Int32.toInt_toInt64, nI_toInt (by omega)]
  have e2 : (Int32.toInt64 (-nI L)).toInt = -(L : Int) := by rw [Int32.toInt_toInt64, sb_negT (by omega)]
  unfold o_X5_kept o_X4_limitTo lmax lmin
  simp only [Int64.le_iff_toInt_le, Int64.lt_iff_toInt_lt, e1, e2]
  by_cases g1 : v.toInt ≤ L
  · rw [if_pos g1]
    by_cases g2 : v.toInt < L
    · rw [if_pos g2]
      by_cases g3 : -(L : Int) ≤ v.toInt
      · rw [if_pos g3, if_neg (by omega)]
      · rw [if_neg g3, if_pos (by omega), Int32.toInt32_toInt64]
    · have g4 : v = Int32.toInt64 (nI L) := Int64.toInt_inj.mp (by rw [e1]; omega)
      rw [if_neg g2, if_pos (by omega), e1, if_neg (by omega), g4]
  · rw [if_neg g1, if_neg (show ¬ v.toInt < (L : Int) by omega), e1, if_neg (by omega), Int32.toInt32_toInt64]
theorem mid_eq {x : Int32} {wt : Nat} (hx : x = nI wt) (h : wt ≤ 333) : Int32.toInt64 (1000 - 2 * x) = 1000 - 2 * Int32.toInt64 x := by
  subst hx
  rw [show (1000 : Int32) = nI 1000 from rfl, show (2 : Int32) = nI 2 from rfl, pk_mul, pk_sub (by omega), nI_l (by omega), nI_l (by omega), show (1000 : Int64) = lN 1000 from rfl, show (2 : Int64) = lN 2 from rfl, lN_mul, lN_sub (by omega)]
def o_X5_isSteady_19 (s : Nat → Int32) (f : Nat → Nat → Int32) (K : Nat) (h : Nat) (k : Int32) : Int32 := stvF h K (fun y => f 10 (48 * y + Int32.toNatClampNeg k)) (s 8) h
set_option maxHeartbeats 4000000 in
set_option maxRecDepth 100000 in
theorem j_X5_isSteady_19 {p : Program} {e : Env} {st : State} {m : MethodId} {args : Array Value} {below : List Frame} {meth : Method} {c : Code} {ws0 : va_W} {sz : Nat} (l : Launch) (D : va_G) (cI cO : ClassId) (a : Nat → Nat) (R : va_W) (s : Nat → Int32) (f : Nat → Nat → Int32) (N : Nat) (K : Nat) (h : Nat) (k : Int32) (hK : s 19 = nI K) (hK2 : K < 1000000) (hh1 : 1 ≤ h) (hh5 : h ≤ 5) (hh : s 9 = nI h) (h48 : N ≤ 48) (hj : Int32.toNatClampNeg k < N ∧ k = nI (Int32.toNatClampNeg k)) (S : CallFix p m c cX5_isSteady 4 st args wsL_law RX5) (hr : meth.sig.returnType = (some .boolean)) (hlk : meth.locks = false) : ∀ (n : Nat) (i : Nat) (H : Heap) (locs : List Loc) (ls : Array Slot), h + 1 ≤ i + n → i ≤ h → Wd D (kT cI cO) (va_A ws0 sz) st.heap st (mW cI cO a s f R) H locs → lv_has ls 4 [(0, .ref (a 0)), (1, .int k), (2, .int (stvF h K (fun y => f 10 (48 * y + Int32.toNatClampNeg k)) (s 8) i)), (3, .int (nI i))] → W p l e { frames := 1, cells := 0, slots := 0, locals := 20 } st m args below meth c H locs 0 0 (MQ below (mQi D (kT cI cO) ws0 sz (mW cI cO a s f R) (o_X5_isSteady_19 s f K h k)) args st 0 0 (va_A ws0 sz)) (F0 m 19 ls []) := by
  intro n
  induction n with
  | zero => intro i H locs ls hfu hi w hl; exact absurd hfu (by omega)
  | succ n ih =>
    intro i H locs ls hfu hi w hl
    refine lv_iload_n S.1 S.2.1 dX5_isSteady_19 rfl (lv_at hl 3 rfl) ?_
    refine lv_aload_n S.1 S.2.1 dX5_isSteady_20 rfl (lv_at hl 0 rfl) ?_
    refine mg_9 S w lk_RX5_76 dX5_isSteady_21 ?_
    refine x_eqi (x := s 9) (y := nI h) (hh) ?_
    refine lv_icmp_ge (tgt := 64) S.1 S.2.1 dX5_isSteady_24 (by decide) (fun (c_1 : (nI h) ≤ (nI i)) => ?_) (fun (c_1 : ¬ ((nI h) ≤ (nI i))) => ?_)
    · have he : i = h := by
        have := (nI_leI (a := h) (b := i) (by omega) (by omega)).mp c_1
        omega
      subst i
      refine lv_iload_n S.1 S.2.1 dX5_isSteady_64 rfl (lv_at hl 2 rfl) ?_
      exact x_retz S w hr hlk dX5_isSteady_65 (stvF_b _ _ _ _ _) (show stvF h K (fun y => f 10 (48 * y + Int32.toNatClampNeg k)) (s 8) h = o_X5_isSteady_19 s f K h k from by simp only [o_X5_isSteady_19]) (show mW cI cO a s f R = mW cI cO a s f R from rfl)
    · have hlt : i < h := Nat.lt_of_not_le (fun z => c_1 (nI_le z (by omega)))
      refine lv_iload_n S.1 S.2.1 dX5_isSteady_27 rfl (lv_at hl 2 rfl) ?_
      refine lv_if_eq (tgt := 64) S.1 S.2.1 dX5_isSteady_28 (by decide) (fun (c_2 : (stvF h K (fun y => f 10 (48 * y + Int32.toNatClampNeg k)) (s 8) i) = 0) => ?_) (fun (c_2 : ¬ ((stvF h K (fun y => f 10 (48 * y + Int32.toNatClampNeg k)) (s 8) i) = 0)) => ?_)
      · have h0 : stvF h K (fun y => f 10 (48 * y + Int32.toNatClampNeg k)) (s 8) h = 0 := stv_0 hi c_2
        refine lv_iload_n S.1 S.2.1 dX5_isSteady_64 rfl (lv_at hl 2 rfl) ?_
        exact x_retz S w hr hlk dX5_isSteady_65 (stvF_b _ _ _ _ _) (show stvF h K (fun y => f 10 (48 * y + Int32.toNatClampNeg k)) (s 8) i = o_X5_isSteady_19 s f K h k from by rw [c_2, o_X5_isSteady_19, h0]) (show mW cI cO a s f R = mW cI cO a s f R from rfl)
      · refine lv_aload_n S.1 S.2.1 dX5_isSteady_31 rfl (lv_at hl 0 rfl) ?_
        refine mr_11 S w lk_RX5_25 dX5_isSteady_32 ?_
        refine lv_bipush (v := 48) S.1 S.2.1 dX5_isSteady_35 (by decide) ?_
        refine lv_iload_n S.1 S.2.1 dX5_isSteady_37 rfl (lv_at hl 3 rfl) ?_
        refine lv_imul S.1 S.2.1 dX5_isSteady_38 ?_
        refine lv_iload_n S.1 S.2.1 dX5_isSteady_39 rfl (lv_at hl 1 rfl) ?_
        refine lv_iadd S.1 S.2.1 dX5_isSteady_40 ?_
        refine x_eqi (x := (48 * (nI i)) + k) (y := nI (48 * i + Int32.toNatClampNeg k)) (by rw [hj.2, nI_clamp (by omega)]; exact e_ix (by omega) (by omega)) ?_
        refine x_iald S w 11 0 (g := f 10) (v := (f 10) (48 * i + Int32.toNatClampNeg k)) (48 * i + Int32.toNatClampNeg k) (by omega) (rfl) (Nat.le_of_ble_eq_true rfl) (mc_11) rfl (rfl) dX5_isSteady_41 ?_
        refine x_Si (As := [.int ((f 10) (48 * i + Int32.toNatClampNeg k))]) (rest := []) S w (goodS lk_RX5_140 lt_X5_size ln_RX5 lc_X5_size) hd_X5_size (k_X5_size l _ _ (mW cI cO a s f R) ((f 10) (48 * i + Int32.toNatClampNeg k))) rfl ⟨(Nat.le_of_ble_eq_true rfl), (Nat.le_of_ble_eq_true rfl)⟩ ⟨rfl, rfl⟩ hl.1 rfl (Nat.le_of_ble_eq_true rfl) ⟨Nat.zero_le _, Nat.zero_le _⟩ dX5_isSteady_42 (fun H locs (w : Wd D (kT cI cO) (va_A _ _) _ _ (mW cI cO a s f R) H locs) => ?_)
        refine x_eqi (x := o_X5_size ((f 10) (48 * i + Int32.toNatClampNeg k))) (y := iabs ((f 10) (48 * i + Int32.toNatClampNeg k))) (sz_eq _) ?_
        refine lv_aload_n S.1 S.2.1 dX5_isSteady_45 rfl (lv_at hl 0 rfl) ?_
        refine mg_8 S w lk_RX5_73 dX5_isSteady_46 ?_
        refine lv_icmp_gt (tgt := 56) S.1 S.2.1 dX5_isSteady_49 (by decide) (fun (c_3 : (s 8) < (iabs ((f 10) (48 * i + Int32.toNatClampNeg k)))) => ?_) (fun (c_3 : ¬ ((s 8) < (iabs ((f 10) (48 * i + Int32.toNatClampNeg k))))) => ?_)
        · have hs := stv_s0 (K := K) (h := h) (er := (fun y => f 10 (48 * y + Int32.toNatClampNeg k))) (tol := s 8) (i := i) c_2 (Int32.not_le.mpr c_3)
          refine lv_iconst (v := 0) S.1 S.2.1 dX5_isSteady_56 (by decide) ?_
          refine lv_istore_n (lv' := [(2, .int 0), (0, .ref (a 0)), (1, .int k), (3, .int (nI i))]) S.1 S.2.1 dX5_isSteady_57 rfl hl (by decide) rfl (fun ls hl => ?_)
          refine lv_iinc (v := nI (i + 1)) (lv' := [(3, .int (nI (i + 1))), (2, .int 0), (0, .ref (a 0)), (1, .int k)]) S.1 S.2.1 dX5_isSteady_58 hl (k := 3) rfl (x_inc _) (by decide) rfl (fun ls hl => ?_)
          refine lv_goto (tgt := 19) S.1 S.2.1 dX5_isSteady_61 (by decide) ?_
          exact ih (i + 1) _ _ _ (by omega) (by omega) w (lv_sub hl [2, 3, 1, 0] (by rw [hs]; rfl))
        · have hs := stv_s1 (K := K) (h := h) (er := (fun y => f 10 (48 * y + Int32.toNatClampNeg k))) (tol := s 8) (i := i) c_2 (Int32.not_lt.mp c_3)
          refine lv_iconst (v := 1) S.1 S.2.1 dX5_isSteady_52 (by decide) ?_
          refine lv_goto (tgt := 57) S.1 S.2.1 dX5_isSteady_53 (by decide) ?_
          refine lv_istore_n (lv' := [(2, .int 1), (0, .ref (a 0)), (1, .int k), (3, .int (nI i))]) S.1 S.2.1 dX5_isSteady_57 rfl hl (by decide) rfl (fun ls hl => ?_)
          refine lv_iinc (v := nI (i + 1)) (lv' := [(3, .int (nI (i + 1))), (2, .int 1), (0, .ref (a 0)), (1, .int k)]) S.1 S.2.1 dX5_isSteady_58 hl (k := 3) rfl (x_inc _) (by decide) rfl (fun ls hl => ?_)
          refine lv_goto (tgt := 19) S.1 S.2.1 dX5_isSteady_61 (by decide) ?_
          exact ih (i + 1) _ _ _ (by omega) (by omega) w (lv_sub hl [2, 3, 1, 0] (by rw [hs]; rfl))
def o_X5_isSteady (s : Nat → Int32) (f : Nat → Nat → Int32) (K : Nat) (h : Nat) (k : Int32) : Int32 := stvF h K (fun y => f 10 (48 * y + Int32.toNatClampNeg k)) (s 8) h
set_option maxHeartbeats 4000000 in
set_option maxRecDepth 100000 in
theorem k_X5_isSteady (l : Launch) (D : va_G) (cI cO : ClassId) (a : Nat → Nat) (R : va_W) (s : Nat → Int32) (f : Nat → Nat → Int32) (N : Nat) (K : Nat) (h : Nat) (k : Int32) (hK : s 19 = nI K) (hK2 : K < 1000000) (hh1 : 1 ≤ h) (hh5 : h ≤ 5) (hh : s 9 = nI h) (h48 : N ≤ 48) (hj : Int32.toNatClampNeg k < N ∧ k = nI (Int32.toNatClampNeg k)) : Mi l yX5_isSteady cX5_isSteady 4 (some .boolean) { frames := 1, cells := 0, slots := 0, locals := 20 } D (kT cI cO) (mW cI cO a s f R) [.ref (a 0), .int k] (mW cI cO a s f R) (o_X5_isSteady s f K h k) := by
  intro sz
  refine ent (by decide +kernel) (Nat.le_of_ble_eq_true rfl) ?_
  intro p e st m below meth c ls S hr hlk hnm w hsz hl
  have hl : lv_has ls 4 [(0, .ref (a 0)), (1, .int k)] := hl
  refine lv_aload_n S.1 S.2.1 dX5_isSteady_0 rfl (lv_at hl 0 rfl) ?_
  refine mg_19 S w lk_RX5_92 dX5_isSteady_1 ?_
  refine x_eqi (x := s 19) (y := nI K) (hK) ?_
  refine lv_aload_n S.1 S.2.1 dX5_isSteady_4 rfl (lv_at hl 0 rfl) ?_
  refine mg_9 S w lk_RX5_76 dX5_isSteady_5 ?_
  refine x_eqi (x := s 9) (y := nI h) (hh) ?_
  refine lv_icmp_lt (tgt := 15) S.1 S.2.1 dX5_isSteady_8 (by decide) (fun (c_4 : (nI K) < (nI h)) => ?_) (fun (c_4 : ¬ ((nI K) < (nI h))) => ?_)
  · refine lv_iconst (v := 0) S.1 S.2.1 dX5_isSteady_15 (by decide) ?_
    refine lv_istore_n (lv' := [(2, .int 0), (0, .ref (a 0)), (1, .int k)]) S.1 S.2.1 dX5_isSteady_16 rfl hl (by decide) rfl (fun ls hl => ?_)
    refine lv_iconst (v := 0) S.1 S.2.1 dX5_isSteady_17 (by decide) ?_
    refine lv_istore_n (lv' := [(3, .int 0), (2, .int 0), (0, .ref (a 0)), (1, .int k)]) S.1 S.2.1 dX5_isSteady_18 rfl hl (by decide) rfl (fun ls hl => ?_)
    refine x_toi (show o_X5_isSteady_19 s f K h k = o_X5_isSteady s f K h k from rfl) (show mW cI cO a s f R = mW cI cO a s f R from rfl) ?_
    exact j_X5_isSteady_19 l D cI cO a R s f N K h k hK hK2 hh1 hh5 hh h48 hj S hr hlk (h + 1) 0 _ _ _ (by omega) (by omega) w (lv_sub hl [2, 3, 1, 0] (by rw [stvF, if_neg (Int32.not_le.mpr c_4)]; rfl))
  · refine lv_iconst (v := 1) S.1 S.2.1 dX5_isSteady_11 (by decide) ?_
    refine lv_goto (tgt := 16) S.1 S.2.1 dX5_isSteady_12 (by decide) ?_
    refine lv_istore_n (lv' := [(2, .int 1), (0, .ref (a 0)), (1, .int k)]) S.1 S.2.1 dX5_isSteady_16 rfl hl (by decide) rfl (fun ls hl => ?_)
    refine lv_iconst (v := 0) S.1 S.2.1 dX5_isSteady_17 (by decide) ?_
    refine lv_istore_n (lv' := [(3, .int 0), (2, .int 1), (0, .ref (a 0)), (1, .int k)]) S.1 S.2.1 dX5_isSteady_18 rfl hl (by decide) rfl (fun ls hl => ?_)
    refine x_toi (show o_X5_isSteady_19 s f K h k = o_X5_isSteady s f K h k from rfl) (show mW cI cO a s f R = mW cI cO a s f R from rfl) ?_
    exact j_X5_isSteady_19 l D cI cO a R s f N K h k hK hK2 hh1 hh5 hh h48 hj S hr hlk (h + 1) 0 _ _ _ (by omega) (by omega) w (lv_sub hl [2, 3, 1, 0] (by rw [stvF, if_pos (Int32.not_lt.mp c_4)]; rfl))
def o_X5_state (s : Nat → Int32) (f : Nat → Nat → Int32) (K : Nat) (h : Nat) (k : Int32) : Int32 := if (noS s k) = 0 then if (nI K) = 0 then 0 else if (stvF h K (fun y => f 10 (48 * y + Int32.toNatClampNeg k)) (s 8) h) = 0 then if (nI K) ≤ 1 then 3 else if (iabs ((f 10) (Int32.toNatClampNeg k))) ≤ (iabs ((f 10) (48 + Int32.toNatClampNeg k))) then 3 else 2 else 1 else (-2000000001)
set_option maxHeartbeats 4000000 in
set_option maxRecDepth 100000 in
theorem k_X5_state (l : Launch) (D : va_G) (cI cO : ClassId) (a : Nat → Nat) (R : va_W) (s : Nat → Int32) (f : Nat → Nat → Int32) (N : Nat) (K : Nat) (h : Nat) (k : Int32) (hN : s 0 = nI N) (h4 : 4 ≤ N) (h48 : N ≤ 48) (hK : s 19 = nI K) (hK2 : K < 1000000) (hh1 : 1 ≤ h) (hh5 : h ≤ 5) (hh : s 9 = nI h) : Mi l yX5_state cX5_state 2 (some .int) { frames := 2, cells := 0, slots := 0, locals := 43 } D (kT cI cO) (mW cI cO a s f R) [.ref (a 0), .int k] (mW cI cO a s f R) (o_X5_state s f K h k) := by
  intro sz
  refine ent (by decide +kernel) (Nat.le_of_ble_eq_true rfl) ?_
  intro p e st m below meth c ls S hr hlk hnm w hsz hl
  have hl : lv_has ls 2 [(0, .ref (a 0)), (1, .int k)] := hl
  refine lv_aload_n S.1 S.2.1 dX5_state_0 rfl (lv_at hl 0 rfl) ?_
  refine lv_iload_n S.1 S.2.1 dX5_state_1 rfl (lv_at hl 1 rfl) ?_
  refine x_Vi (As := [.int k]) (rest := []) S w (goodV lk_RX5_118 li_X5_noSample ls_X5_noSample ln_RX5 lc_X5_noSample) hV_X5_noSample (k_X5_noSample l D cI cO a R s f k) rfl 0 5 rfl rfl mc_0 ⟨(Nat.le_of_ble_eq_true rfl), (Nat.le_of_ble_eq_true rfl)⟩ ⟨rfl, rfl⟩ hl.1 rfl (Nat.le_of_ble_eq_true rfl) ⟨Nat.zero_le _, Nat.zero_le _⟩ dX5_state_2 (fun H locs (w : Wd D (kT cI cO) (va_A _ _) _ _ (mW cI cO a s f R) H locs) => ?_)
  refine x_eqi (x := o_X5_noSample s f k) (y := noS s k) rfl ?_
  refine lv_if_eq (tgt := 11) S.1 S.2.1 dX5_state_5 (by decide) (fun (c_1 : (noS s k) = 0) => ?_) (fun (c_1 : ¬ ((noS s k) = 0)) => ?_)
  · have hj := noS_j hN h4 h48 c_1
    refine lv_aload_n S.1 S.2.1 dX5_state_11 rfl (lv_at hl 0 rfl) ?_
    refine mg_19 S w lk_RX5_92 dX5_state_12 ?_
    refine x_eqi (x := s 19) (y := nI K) (hK) ?_
    refine lv_if_ne (tgt := 20) S.1 S.2.1 dX5_state_15 (by decide) (fun (c_2 : ¬ (nI K) = 0) => ?_) (fun (c_2 : (nI K) = 0) => ?_)
    · refine lv_aload_n S.1 S.2.1 dX5_state_20 rfl (lv_at hl 0 rfl) ?_
      refine lv_iload_n S.1 S.2.1 dX5_state_21 rfl (lv_at hl 1 rfl) ?_
      refine x_Vi (As := [.int k]) (rest := []) S w (goodV lk_RX5_177 li_X5_isSteady ls_X5_isSteady ln_RX5 lc_X5_isSteady) hV_X5_isSteady (k_X5_isSteady l D cI cO a R s f N K h k hK hK2 hh1 hh5 hh h48 hj) rfl 0 5 rfl rfl mc_0 ⟨(Nat.le_of_ble_eq_true rfl), (Nat.le_of_ble_eq_true rfl)⟩ ⟨rfl, rfl⟩ hl.1 rfl (Nat.le_of_ble_eq_true rfl) ⟨Nat.zero_le _, Nat.zero_le _⟩ dX5_state_22 (fun H locs (w : Wd D (kT cI cO) (va_A _ _) _ _ (mW cI cO a s f R) H locs) => ?_)
      refine x_eqi (x := o_X5_isSteady s f K h k) (y := stvF h K (fun y => f 10 (48 * y + Int32.toNatClampNeg k)) (s 8) h) rfl ?_
      refine lv_if_eq (tgt := 32) S.1 S.2.1 dX5_state_25 (by decide) (fun (c_3 : (stvF h K (fun y => f 10 (48 * y + Int32.toNatClampNeg k)) (s 8) h) = 0) => ?_) (fun (c_3 : ¬ ((stvF h K (fun y => f 10 (48 * y + Int32.toNatClampNeg k)) (s 8) h) = 0)) => ?_)
      · refine lv_aload_n S.1 S.2.1 dX5_state_32 rfl (lv_at hl 0 rfl) ?_
        refine mg_19 S w lk_RX5_92 dX5_state_33 ?_
        refine x_eqi (x := s 19) (y := nI K) (hK) ?_
        refine lv_iconst (v := 1) S.1 S.2.1 dX5_state_36 (by decide) ?_
        refine lv_icmp_le (tgt := 68) S.1 S.2.1 dX5_state_37 (by decide) (fun (c_4 : (nI K) ≤ 1) => ?_) (fun (c_4 : ¬ ((nI K) ≤ 1)) => ?_)
        · refine lv_iconst (v := 3) S.1 S.2.1 dX5_state_68 (by decide) ?_
          exact x_reti S w hr hlk dX5_state_69 (show 3 = o_X5_state s f K h k from by simp only [o_X5_state, if_pos c_1, if_neg c_2, if_pos c_3, if_pos c_4]) (show mW cI cO a s f R = mW cI cO a s f R from rfl)
        · refine lv_aload_n S.1 S.2.1 dX5_state_40 rfl (lv_at hl 0 rfl) ?_
          refine mr_11 S w lk_RX5_25 dX5_state_41 ?_
          refine lv_iload_n S.1 S.2.1 dX5_state_44 rfl (lv_at hl 1 rfl) ?_
          refine x_iald S w 11 0 (g := f 10) (v := (f 10) (Int32.toNatClampNeg k)) (Int32.toNatClampNeg k) (by have := hj.1; omega) (hj.2) (Nat.le_of_ble_eq_true rfl) (mc_11) rfl (rfl) dX5_state_45 ?_
          refine x_Si (As := [.int ((f 10) (Int32.toNatClampNeg k))]) (rest := []) S w (goodS lk_RX5_140 lt_X5_size ln_RX5 lc_X5_size) hd_X5_size (k_X5_size l _ _ (mW cI cO a s f R) ((f 10) (Int32.toNatClampNeg k))) rfl ⟨(Nat.le_of_ble_eq_true rfl), (Nat.le_of_ble_eq_true rfl)⟩ ⟨rfl, rfl⟩ hl.1 rfl (Nat.le_of_ble_eq_true rfl) ⟨Nat.zero_le _, Nat.zero_le _⟩ dX5_state_46 (fun H locs (w : Wd D (kT cI cO) (va_A _ _) _ _ (mW cI cO a s f R) H locs) => ?_)
          refine x_eqi (x := o_X5_size ((f 10) (Int32.toNatClampNeg k))) (y := iabs ((f 10) (Int32.toNatClampNeg k))) (sz_eq _) ?_
          refine lv_aload_n S.1 S.2.1 dX5_state_49 rfl (lv_at hl 0 rfl) ?_
          refine mr_11 S w lk_RX5_25 dX5_state_50 ?_
          refine lv_bipush (v := 48) S.1 S.2.1 dX5_state_53 (by decide) ?_
          refine lv_iload_n S.1 S.2.1 dX5_state_55 rfl (lv_at hl 1 rfl) ?_
          refine lv_iadd S.1 S.2.1 dX5_state_56 ?_
          refine x_eqi (x := 48 + k) (y := nI (48 + Int32.toNatClampNeg k)) (by rw [hj.2, nI_clamp (by omega)]; exact nI_add 48 _) ?_
          refine x_iald S w 11 0 (g := f 10) (v := (f 10) (48 + Int32.toNatClampNeg k)) (48 + Int32.toNatClampNeg k) (by omega) (rfl) (Nat.le_of_ble_eq_true rfl) (mc_11) rfl (rfl) dX5_state_57 ?_
          refine x_Si (As := [.int ((f 10) (48 + Int32.toNatClampNeg k))]) (rest := [.int (iabs ((f 10) (Int32.toNatClampNeg k)))]) S w (goodS lk_RX5_140 lt_X5_size ln_RX5 lc_X5_size) hd_X5_size (k_X5_size l _ _ (mW cI cO a s f R) ((f 10) (48 + Int32.toNatClampNeg k))) rfl ⟨(Nat.le_of_ble_eq_true rfl), (Nat.le_of_ble_eq_true rfl)⟩ ⟨rfl, rfl⟩ hl.1 rfl (Nat.le_of_ble_eq_true rfl) ⟨Nat.zero_le _, Nat.zero_le _⟩ dX5_state_58 (fun H locs (w : Wd D (kT cI cO) (va_A _ _) _ _ (mW cI cO a s f R) H locs) => ?_)
          refine x_eqi (x := o_X5_size ((f 10) (48 + Int32.toNatClampNeg k))) (y := iabs ((f 10) (48 + Int32.toNatClampNeg k))) (sz_eq _) ?_
          refine lv_icmp_le (tgt := 68) S.1 S.2.1 dX5_state_61 (by decide) (fun (c_5 : (iabs ((f 10) (Int32.toNatClampNeg k))) ≤ (iabs ((f 10) (48 + Int32.toNatClampNeg k)))) => ?_) (fun (c_5 : ¬ ((iabs ((f 10) (Int32.toNatClampNeg k))) ≤ (iabs ((f 10) (48 + Int32.toNatClampNeg k))))) => ?_)
          · refine lv_iconst (v := 3) S.1 S.2.1 dX5_state_68 (by decide) ?_
            exact x_reti S w hr hlk dX5_state_69 (show 3 = o_X5_state s f K h k from by simp only [o_X5_state, if_pos c_1, if_neg c_2, if_pos c_3, if_neg c_4, if_pos c_5]) (show mW cI cO a s f R = mW cI cO a s f R from rfl)
          · refine lv_iconst (v := 2) S.1 S.2.1 dX5_state_64 (by decide) ?_
            refine lv_goto (tgt := 69) S.1 S.2.1 dX5_state_65 (by decide) ?_
            exact x_reti S w hr hlk dX5_state_69 (show 2 = o_X5_state s f K h k from by simp only [o_X5_state, if_pos c_1, if_neg c_2, if_pos c_3, if_neg c_4, if_neg c_5]) (show mW cI cO a s f R = mW cI cO a s f R from rfl)
      · refine lv_iconst (v := 1) S.1 S.2.1 dX5_state_28 (by decide) ?_
        refine lv_goto (tgt := 69) S.1 S.2.1 dX5_state_29 (by decide) ?_
        exact x_reti S w hr hlk dX5_state_69 (show 1 = o_X5_state s f K h k from by simp only [o_X5_state, if_pos c_1, if_neg c_2, if_neg c_3]) (show mW cI cO a s f R = mW cI cO a s f R from rfl)
    · refine lv_iconst (v := 0) S.1 S.2.1 dX5_state_18 (by decide) ?_
      exact x_reti S w hr hlk dX5_state_19 (show 0 = o_X5_state s f K h k from by simp only [o_X5_state, if_pos c_1, if_pos c_2]) (show mW cI cO a s f R = mW cI cO a s f R from rfl)
  · refine x_ldc S lk_RX5_117 dX5_state_8 ?_
    exact x_reti S w hr hlk dX5_state_10 (show (-2000000001) = o_X5_state s f K h k from by simp only [o_X5_state, if_neg c_1]) (show mW cI cO a s f R = mW cI cO a s f R from rfl)
def o_X5_convergedCount_4 (s : Nat → Int32) (f : Nat → Nat → Int32) (N : Nat) (K : Nat) (h : Nat) : Int32 := sumI (fun y => onI (stvF h K (fun z => f 10 (48 * z + Int32.toNatClampNeg (nI y))) (s 8) h)) N
set_option maxHeartbeats 4000000 in
set_option maxRecDepth 100000 in
theorem j_X5_convergedCount_4 {p : Program} {e : Env} {st : State} {m : MethodId} {args : Array Value} {below : List Frame} {meth : Method} {c : Code} {ws0 : va_W} {sz : Nat} (l : Launch) (D : va_G) (cI cO : ClassId) (a : Nat → Nat) (R : va_W) (s : Nat → Int32) (f : Nat → Nat → Int32) (N : Nat) (K : Nat) (h : Nat) (hN : s 0 = nI N) (h4 : 4 ≤ N) (h48 : N ≤ 48) (hK : s 19 = nI K) (hK2 : K < 1000000) (hh1 : 1 ≤ h) (hh5 : h ≤ 5) (hh : s 9 = nI h) (S : CallFix p m c cX5_convergedCount 3 st args wsL_law RX5) (hr : meth.sig.returnType = (some .int)) (hlk : meth.locks = false) : ∀ (n : Nat) (i : Nat) (H : Heap) (locs : List Loc) (ls : Array Slot), N + 1 ≤ i + n → i ≤ N → Wd D (kT cI cO) (va_A ws0 sz) st.heap st (mW cI cO a s f R) H locs → lv_has ls 3 [(0, .ref (a 0)), (1, .int (sumI (fun y => onI (stvF h K (fun z => f 10 (48 * z + Int32.toNatClampNeg (nI y))) (s 8) h)) i)), (2, .int (nI i))] → W p l e { frames := 2, cells := 0, slots := 0, locals := 43 } st m args below meth c H locs 0 0 (MQ below (mQi D (kT cI cO) ws0 sz (mW cI cO a s f R) (o_X5_convergedCount_4 s f N K h)) args st 0 0 (va_A ws0 sz)) (F0 m 4 ls []) := by
  intro n
  induction n with
  | zero => intro i H locs ls hfu hi w hl; exact absurd hfu (by omega)
  | succ n ih =>
    intro i H locs ls hfu hi w hl
    refine lv_iload_n S.1 S.2.1 dX5_convergedCount_4 rfl (lv_at hl 2 rfl) ?_
    refine lv_aload_n S.1 S.2.1 dX5_convergedCount_5 rfl (lv_at hl 0 rfl) ?_
    refine mg_0 S w lk_RX5_47 dX5_convergedCount_6 ?_
    refine x_eqi (x := s 0) (y := nI N) (hN) ?_
    refine lv_icmp_ge (tgt := 34) S.1 S.2.1 dX5_convergedCount_9 (by decide) (fun (c_1 : (nI N) ≤ (nI i)) => ?_) (fun (c_1 : ¬ ((nI N) ≤ (nI i))) => ?_)
    · have he : i = N := by
        have := (nI_leI (a := N) (b := i) (by omega) (by omega)).mp c_1
        omega
      subst i
      refine lv_iload_n S.1 S.2.1 dX5_convergedCount_34 rfl (lv_at hl 1 rfl) ?_
      exact x_reti S w hr hlk dX5_convergedCount_35 (show sumI (fun y => onI (stvF h K (fun z => f 10 (48 * z + Int32.toNatClampNeg (nI y))) (s 8) h)) N = o_X5_convergedCount_4 s f N K h from by simp only [o_X5_convergedCount_4]) (show mW cI cO a s f R = mW cI cO a s f R from rfl)
    · have hlt : i < N := Nat.lt_of_not_le (fun z => c_1 (nI_le z (by omega)))
      refine lv_iload_n S.1 S.2.1 dX5_convergedCount_12 rfl (lv_at hl 1 rfl) ?_
      refine lv_aload_n S.1 S.2.1 dX5_convergedCount_13 rfl (lv_at hl 0 rfl) ?_
      refine lv_iload_n S.1 S.2.1 dX5_convergedCount_14 rfl (lv_at hl 2 rfl) ?_
      refine x_Vi (As := [.int (nI i)]) (rest := [.int (sumI (fun y => onI (stvF h K (fun z => f 10 (48 * z + Int32.toNatClampNeg (nI y))) (s 8) h)) i)]) S w (goodV lk_RX5_177 li_X5_isSteady ls_X5_isSteady ln_RX5 lc_X5_isSteady) hV_X5_isSteady (k_X5_isSteady l D cI cO a R s f N K h (nI i) hK hK2 hh1 hh5 hh h48 (⟨by rw [nI_clamp (by omega)]; omega, by rw [nI_clamp (by omega)]⟩)) rfl 0 5 rfl rfl mc_0 ⟨(Nat.le_of_ble_eq_true rfl), (Nat.le_of_ble_eq_true rfl)⟩ ⟨rfl, rfl⟩ hl.1 rfl (Nat.le_of_ble_eq_true rfl) ⟨Nat.zero_le _, Nat.zero_le _⟩ dX5_convergedCount_15 (fun H locs (w : Wd D (kT cI cO) (va_A _ _) _ _ (mW cI cO a s f R) H locs) => ?_)
      refine x_eqi (x := o_X5_isSteady s f K h (nI i)) (y := stvF h K (fun y => f 10 (48 * y + Int32.toNatClampNeg (nI i))) (s 8) h) rfl ?_
      refine lv_if_eq (tgt := 25) S.1 S.2.1 dX5_convergedCount_18 (by decide) (fun (c_2 : (stvF h K (fun y => f 10 (48 * y + Int32.toNatClampNeg (nI i))) (s 8) h) = 0) => ?_) (fun (c_2 : ¬ ((stvF h K (fun y => f 10 (48 * y + Int32.toNatClampNeg (nI i))) (s 8) h) = 0)) => ?_)
      · have hs : sumI (fun y => onI (stvF h K (fun z => f 10 (48 * z + Int32.toNatClampNeg (nI y))) (s 8) h)) i + 0 = sumI (fun y => onI (stvF h K (fun z => f 10 (48 * z + Int32.toNatClampNeg (nI y))) (s 8) h)) (i + 1) := by
          show _ = sumI (fun y => onI (stvF h K (fun z => f 10 (48 * z + Int32.toNatClampNeg (nI y))) (s 8) h)) i + onI (stvF h K (fun z => f 10 (48 * z + Int32.toNatClampNeg (nI i))) (s 8) h)
          rw [c_2]; rfl
        refine lv_iconst (v := 0) S.1 S.2.1 dX5_convergedCount_25 (by decide) ?_
        refine lv_iadd S.1 S.2.1 dX5_convergedCount_26 ?_
        refine lv_istore_n (lv' := [(1, .int ((sumI (fun y => onI (stvF h K (fun z => f 10 (48 * z + Int32.toNatClampNeg (nI y))) (s 8) h)) i) + 0)), (0, .ref (a 0)), (2, .int (nI i))]) S.1 S.2.1 dX5_convergedCount_27 rfl hl (by decide) rfl (fun ls hl => ?_)
        refine lv_iinc (v := nI (i + 1)) (lv' := [(2, .int (nI (i + 1))), (1, .int ((sumI (fun y => onI (stvF h K (fun z => f 10 (48 * z + Int32.toNatClampNeg (nI y))) (s 8) h)) i) + 0)), (0, .ref (a 0))]) S.1 S.2.1 dX5_convergedCount_28 hl (k := 2) rfl (x_inc _) (by decide) rfl (fun ls hl => ?_)
        refine lv_goto (tgt := 4) S.1 S.2.1 dX5_convergedCount_31 (by decide) ?_
        exact ih (i + 1) _ _ _ (by omega) (by omega) w (lv_sub hl [2, 1, 0] (by rw [← hs]; rfl))
      · have hs : sumI (fun y => onI (stvF h K (fun z => f 10 (48 * z + Int32.toNatClampNeg (nI y))) (s 8) h)) i + 1 = sumI (fun y => onI (stvF h K (fun z => f 10 (48 * z + Int32.toNatClampNeg (nI y))) (s 8) h)) (i + 1) := by
          show _ = sumI (fun y => onI (stvF h K (fun z => f 10 (48 * z + Int32.toNatClampNeg (nI y))) (s 8) h)) i + onI (stvF h K (fun z => f 10 (48 * z + Int32.toNatClampNeg (nI i))) (s 8) h)
          rw [onI, if_neg c_2]
        refine lv_iconst (v := 1) S.1 S.2.1 dX5_convergedCount_21 (by decide) ?_
        refine lv_goto (tgt := 26) S.1 S.2.1 dX5_convergedCount_22 (by decide) ?_
        refine lv_iadd S.1 S.2.1 dX5_convergedCount_26 ?_
        refine lv_istore_n (lv' := [(1, .int ((sumI (fun y => onI (stvF h K (fun z => f 10 (48 * z + Int32.toNatClampNeg (nI y))) (s 8) h)) i) + 1)), (0, .ref (a 0)), (2, .int (nI i))]) S.1 S.2.1 dX5_convergedCount_27 rfl hl (by decide) rfl (fun ls hl => ?_)
        refine lv_iinc (v := nI (i + 1)) (lv' := [(2, .int (nI (i + 1))), (1, .int ((sumI (fun y => onI (stvF h K (fun z => f 10 (48 * z + Int32.toNatClampNeg (nI y))) (s 8) h)) i) + 1)), (0, .ref (a 0))]) S.1 S.2.1 dX5_convergedCount_28 hl (k := 2) rfl (x_inc _) (by decide) rfl (fun ls hl => ?_)
        refine lv_goto (tgt := 4) S.1 S.2.1 dX5_convergedCount_31 (by decide) ?_
        exact ih (i + 1) _ _ _ (by omega) (by omega) w (lv_sub hl [2, 1, 0] (by rw [← hs]; rfl))
def o_X5_convergedCount (s : Nat → Int32) (f : Nat → Nat → Int32) (N : Nat) (K : Nat) (h : Nat) : Int32 := o_X5_convergedCount_4 s f N K h
set_option maxHeartbeats 4000000 in
set_option maxRecDepth 100000 in
theorem k_X5_convergedCount (l : Launch) (D : va_G) (cI cO : ClassId) (a : Nat → Nat) (R : va_W) (s : Nat → Int32) (f : Nat → Nat → Int32) (N : Nat) (K : Nat) (h : Nat) (hN : s 0 = nI N) (h4 : 4 ≤ N) (h48 : N ≤ 48) (hK : s 19 = nI K) (hK2 : K < 1000000) (hh1 : 1 ≤ h) (hh5 : h ≤ 5) (hh : s 9 = nI h) : Mi l yX5_convergedCount cX5_convergedCount 3 (some .int) { frames := 2, cells := 0, slots := 0, locals := 43 } D (kT cI cO) (mW cI cO a s f R) [.ref (a 0)] (mW cI cO a s f R) (o_X5_convergedCount s f N K h) := by
  intro sz
  refine ent (by decide +kernel) (Nat.le_of_ble_eq_true rfl) ?_
  intro p e st m below meth c ls S hr hlk hnm w hsz hl
  have hl : lv_has ls 3 [(0, .ref (a 0))] := hl
  refine lv_iconst (v := 0) S.1 S.2.1 dX5_convergedCount_0 (by decide) ?_
  refine lv_istore_n (lv' := [(1, .int 0), (0, .ref (a 0))]) S.1 S.2.1 dX5_convergedCount_1 rfl hl (by decide) rfl (fun ls hl => ?_)
  refine lv_iconst (v := 0) S.1 S.2.1 dX5_convergedCount_2 (by decide) ?_
  refine lv_istore_n (lv' := [(2, .int 0), (1, .int 0), (0, .ref (a 0))]) S.1 S.2.1 dX5_convergedCount_3 rfl hl (by decide) rfl (fun ls hl => ?_)
  refine x_toi (show o_X5_convergedCount_4 s f N K h = o_X5_convergedCount s f N K h from by simp only [o_X5_convergedCount]) (show mW cI cO a s f R = mW cI cO a s f R from by simp only [o_X5_convergedCount]) ?_
  exact j_X5_convergedCount_4 l D cI cO a R s f N K h hN h4 h48 hK hK2 hh1 hh5 hh S hr hlk (N + 1) 0 _ _ _ (by omega) (by omega) w (lv_sub hl [2, 1, 0] rfl)
def o_X5_begin_129 (s : Nat → Int32) (f : Nat → Nat → Int32) (q : Int32) : (Nat → Int32) × (Nat → Nat → Int32) := (upd (upd (upd (upd (upd (upd (upd (upd (upd (upd (upd (upd (upd (upd (upd (upd (upd (upd (upd (upd (upd s 0 q) 1 500) 2 0) 3 0) 4 1) 5 1000000) 6 4) 7 0) 8 10) 9 2) 10 0) 11 0) 12 0) 13 0) 19 0) 14 0) 15 0) 16 0) 22 (-1)) 17 0) 18 0, va_up (va_up (va_up f 0 (pfx 48 (fun _ => 0) (f 0))) 1 (pfx 48 (fun _ => 0) (f 1))) 6 (pfx 6 (fun y => if y = 0 then 1000 else 0) (f 6)))
set_option maxHeartbeats 4000000 in
set_option maxRecDepth 100000 in
theorem j_X5_begin_129 {p : Program} {e : Env} {st : State} {m : MethodId} {args : Array Value} {below : List Frame} {meth : Method} {c : Code} {ws0 : va_W} {sz : Nat} (l : Launch) (D : va_G) (cI cO : ClassId) (a : Nat → Nat) (R : va_W) (s : Nat → Int32) (f : Nat → Nat → Int32) (q : Int32) (S : CallFix p m c cX5_begin 3 st args wsL_law RX5) (hr : meth.sig.returnType = none) (hlk : meth.locks = false) : ∀ (n : Nat) (i : Nat) (H : Heap) (locs : List Loc) (ls : Array Slot), 7 ≤ i + n → i ≤ 6 → Wd D (kT cI cO) (va_A ws0 sz) st.heap st (mW cI cO a (upd (upd (upd (upd (upd (upd (upd (upd (upd (upd (upd (upd (upd (upd (upd (upd (upd (upd (upd s 0 q) 1 500) 2 0) 3 0) 4 1) 5 1000000) 6 4) 7 0) 8 10) 9 2) 10 0) 11 0) 12 0) 13 0) 19 0) 14 0) 15 0) 16 0) 22 (-1)) (va_up (va_up (va_up f 0 (pfx 48 (fun _ => 0) (f 0))) 1 (pfx 48 (fun _ => 0) (f 1))) 6 (pfx i (fun y => if y = 0 then 1000 else 0) (f 6))) R) H locs → lv_has ls 3 [(0, .ref (a 0)), (2, .int (nI i))] → W p l e { frames := 0, cells := 0, slots := 0, locals := 0 } st m args below meth c H locs 0 0 (MQ below (mQv D (kT cI cO) ws0 sz (mW cI cO a (o_X5_begin_129 s f q).1 (o_X5_begin_129 s f q).2 R)) args st 0 0 (va_A ws0 sz)) (F0 m 129 ls []) := by
  intro n
  induction n with
  | zero => intro i H locs ls hfu hi w hl; exact absurd hfu (by omega)
  | succ n ih =>
    intro i H locs ls hfu hi w hl
    refine lv_iload_n S.1 S.2.1 dX5_begin_129 rfl (lv_at hl 1 rfl) ?_
    refine lv_bipush (v := 6) S.1 S.2.1 dX5_begin_130 (by decide) ?_
    refine lv_icmp_ge (tgt := 158) S.1 S.2.1 dX5_begin_132 (by decide) (fun (c_1 : 6 ≤ (nI i)) => ?_) (fun (c_1 : ¬ (6 ≤ (nI i))) => ?_)
    · have he : i = 6 := by
        have := (nI_leI (a := 6) (b := i) (by omega) (by omega)).mp c_1
        omega
      subst i
      refine lv_aload_n S.1 S.2.1 dX5_begin_158 rfl (lv_at hl 0 rfl) ?_
      refine lv_iconst (v := 0) S.1 S.2.1 dX5_begin_159 (by decide) ?_
      refine mp_17 S w lk_RX5_107 dX5_begin_160 (fun H locs (w : Wd D (kT cI cO) (va_A _ _) _ _ (mW cI cO a (upd (upd (upd (upd (upd (upd (upd (upd (upd (upd (upd (upd (upd (upd (upd (upd (upd (upd (upd (upd s 0 q) 1 500) 2 0) 3 0) 4 1) 5 1000000) 6 4) 7 0) 8 10) 9 2) 10 0) 11 0) 12 0) 13 0) 19 0) 14 0) 15 0) 16 0) 22 (-1)) 17 0) (va_up (va_up (va_up f 0 (pfx 48 (fun _ => 0) (f 0))) 1 (pfx 48 (fun _ => 0) (f 1))) 6 (pfx 6 (fun y => if y = 0 then 1000 else 0) (f 6))) R) H locs) => ?_)
      refine lv_aload_n S.1 S.2.1 dX5_begin_163 rfl (lv_at hl 0 rfl) ?_
      refine lv_iconst (v := 0) S.1 S.2.1 dX5_begin_164 (by decide) ?_
      refine mp_18 S w lk_RX5_110 dX5_begin_165 (fun H locs (w : Wd D (kT cI cO) (va_A _ _) _ _ (mW cI cO a (upd (upd (upd (upd (upd (upd (upd (upd (upd (upd (upd (upd (upd (upd (upd (upd (upd (upd (upd (upd (upd s 0 q) 1 500) 2 0) 3 0) 4 1) 5 1000000) 6 4) 7 0) 8 10) 9 2) 10 0) 11 0) 12 0) 13 0) 19 0) 14 0) 15 0) 16 0) 22 (-1)) 17 0) 18 0) (va_up (va_up (va_up f 0 (pfx 48 (fun _ => 0) (f 0))) 1 (pfx 48 (fun _ => 0) (f 1))) 6 (pfx 6 (fun y => if y = 0 then 1000 else 0) (f 6))) R) H locs) => ?_)
      exact x_retv S w hr hlk dX5_begin_168 (show mW cI cO a (upd (upd (upd (upd (upd (upd (upd (upd (upd (upd (upd (upd (upd (upd (upd (upd (upd (upd (upd (upd (upd s 0 q) 1 500) 2 0) 3 0) 4 1) 5 1000000) 6 4) 7 0) 8 10) 9 2) 10 0) 11 0) 12 0) 13 0) 19 0) 14 0) 15 0) 16 0) 22 (-1)) 17 0) 18 0) (va_up (va_up (va_up f 0 (pfx 48 (fun _ => 0) (f 0))) 1 (pfx 48 (fun _ => 0) (f 1))) 6 (pfx 6 (fun y => if y = 0 then 1000 else 0) (f 6))) R = mW cI cO a (o_X5_begin_129 s f q).1 (o_X5_begin_129 s f q).2 R from by simp only [o_X5_begin_129])
    · have hlt : i < 6 := Nat.lt_of_not_le (fun z => c_1 (nI_le z (by omega)))
      refine lv_aload_n S.1 S.2.1 dX5_begin_135 rfl (lv_at hl 0 rfl) ?_
      refine mr_7 S w lk_RX5_40 dX5_begin_136 ?_
      refine lv_iload_n S.1 S.2.1 dX5_begin_139 rfl (lv_at hl 1 rfl) ?_
      refine lv_iload_n S.1 S.2.1 dX5_begin_140 rfl (lv_at hl 1 rfl) ?_
      refine lv_if_ne (tgt := 150) S.1 S.2.1 dX5_begin_141 (by decide) (fun (c_2 : ¬ (nI i) = 0) => ?_) (fun (c_2 : (nI i) = 0) => ?_)
      · have hv : (0 : Int32) = (fun y : Nat => if y = 0 then (1000 : Int32) else 0) i := (if_neg (fun z => c_2 (by rw [z]; rfl))).symm
        refine lv_iconst (v := 0) S.1 S.2.1 dX5_begin_150 (by decide) ?_
        refine x_iast S w 7 0 (g := pfx i (fun y => if y = 0 then 1000 else 0) (f 6)) i (by omega) (rfl) (Nat.le_of_ble_eq_true rfl) (mc_7) rfl (ms_6) dX5_begin_151 (fun H locs (w : Wd D (kT cI cO) (va_A _ _) _ _ (mW cI cO a (upd (upd (upd (upd (upd (upd (upd (upd (upd (upd (upd (upd (upd (upd (upd (upd (upd (upd (upd s 0 q) 1 500) 2 0) 3 0) 4 1) 5 1000000) 6 4) 7 0) 8 10) 9 2) 10 0) 11 0) 12 0) 13 0) 19 0) 14 0) 15 0) 16 0) 22 (-1)) (va_up (va_up (va_up (va_up f 0 (pfx 48 (fun _ => 0) (f 0))) 1 (pfx 48 (fun _ => 0) (f 1))) 6 (pfx i (fun y => if y = 0 then 1000 else 0) (f 6))) 6 (upd (pfx i (fun y => if y = 0 then 1000 else 0) (f 6)) i 0)) R) H locs) => ?_)
        have w := w.to (show mW cI cO a (upd (upd (upd (upd (upd (upd (upd (upd (upd (upd (upd (upd (upd (upd (upd (upd (upd (upd (upd s 0 q) 1 500) 2 0) 3 0) 4 1) 5 1000000) 6 4) 7 0) 8 10) 9 2) 10 0) 11 0) 12 0) 13 0) 19 0) 14 0) 15 0) 16 0) 22 (-1)) (va_up (va_up (va_up (va_up f 0 (pfx 48 (fun _ => 0) (f 0))) 1 (pfx 48 (fun _ => 0) (f 1))) 6 (pfx i (fun y => if y = 0 then 1000 else 0) (f 6))) 6 (upd (pfx i (fun y => if y = 0 then 1000 else 0) (f 6)) i 0)) R = mW cI cO a (upd (upd (upd (upd (upd (upd (upd (upd (upd (upd (upd (upd (upd (upd (upd (upd (upd (upd (upd s 0 q) 1 500) 2 0) 3 0) 4 1) 5 1000000) 6 4) 7 0) 8 10) 9 2) 10 0) 11 0) 12 0) 13 0) 19 0) 14 0) 15 0) 16 0) 22 (-1)) (va_up (va_up (va_up f 0 (pfx 48 (fun _ => 0) (f 0))) 1 (pfx 48 (fun _ => 0) (f 1))) 6 (pfx (i + 1) (fun y => if y = 0 then 1000 else 0) (f 6))) R from m_f (va_step' hv))
        refine lv_iinc (v := nI (i + 1)) (lv' := [(2, .int (nI (i + 1))), (0, .ref (a 0))]) S.1 S.2.1 dX5_begin_152 hl (k := 1) rfl (x_inc _) (by decide) rfl (fun ls hl => ?_)
        refine lv_goto (tgt := 129) S.1 S.2.1 dX5_begin_155 (by decide) ?_
        exact ih (i + 1) _ _ _ (by omega) (by omega) w (lv_sub hl [1, 0] rfl)
      · have hv : (1000 : Int32) = (fun y : Nat => if y = 0 then (1000 : Int32) else 0) i := (if_pos ((nI_eq (a := i) (b := 0) (by omega) (by omega)).mp c_2)).symm
        refine lv_sipush (v := 1000) S.1 S.2.1 dX5_begin_144 (by decide) ?_
        refine lv_goto (tgt := 151) S.1 S.2.1 dX5_begin_147 (by decide) ?_
        refine x_iast S w 7 0 (g := pfx i (fun y => if y = 0 then 1000 else 0) (f 6)) i (by omega) (rfl) (Nat.le_of_ble_eq_true rfl) (mc_7) rfl (ms_6) dX5_begin_151 (fun H locs (w : Wd D (kT cI cO) (va_A _ _) _ _ (mW cI cO a (upd (upd (upd (upd (upd (upd (upd (upd (upd (upd (upd (upd (upd (upd (upd (upd (upd (upd (upd s 0 q) 1 500) 2 0) 3 0) 4 1) 5 1000000) 6 4) 7 0) 8 10) 9 2) 10 0) 11 0) 12 0) 13 0) 19 0) 14 0) 15 0) 16 0) 22 (-1)) (va_up (va_up (va_up (va_up f 0 (pfx 48 (fun _ => 0) (f 0))) 1 (pfx 48 (fun _ => 0) (f 1))) 6 (pfx i (fun y => if y = 0 then 1000 else 0) (f 6))) 6 (upd (pfx i (fun y => if y = 0 then 1000 else 0) (f 6)) i 1000)) R) H locs) => ?_)
        have w := w.to (show mW cI cO a (upd (upd (upd (upd (upd (upd (upd (upd (upd (upd (upd (upd (upd (upd (upd (upd (upd (upd (upd s 0 q) 1 500) 2 0) 3 0) 4 1) 5 1000000) 6 4) 7 0) 8 10) 9 2) 10 0) 11 0) 12 0) 13 0) 19 0) 14 0) 15 0) 16 0) 22 (-1)) (va_up (va_up (va_up (va_up f 0 (pfx 48 (fun _ => 0) (f 0))) 1 (pfx 48 (fun _ => 0) (f 1))) 6 (pfx i (fun y => if y = 0 then 1000 else 0) (f 6))) 6 (upd (pfx i (fun y => if y = 0 then 1000 else 0) (f 6)) i 1000)) R = mW cI cO a (upd (upd (upd (upd (upd (upd (upd (upd (upd (upd (upd (upd (upd (upd (upd (upd (upd (upd (upd s 0 q) 1 500) 2 0) 3 0) 4 1) 5 1000000) 6 4) 7 0) 8 10) 9 2) 10 0) 11 0) 12 0) 13 0) 19 0) 14 0) 15 0) 16 0) 22 (-1)) (va_up (va_up (va_up f 0 (pfx 48 (fun _ => 0) (f 0))) 1 (pfx 48 (fun _ => 0) (f 1))) 6 (pfx (i + 1) (fun y => if y = 0 then 1000 else 0) (f 6))) R from m_f (va_step' hv))
        refine lv_iinc (v := nI (i + 1)) (lv' := [(2, .int (nI (i + 1))), (0, .ref (a 0))]) S.1 S.2.1 dX5_begin_152 hl (k := 1) rfl (x_inc _) (by decide) rfl (fun ls hl => ?_)
        refine lv_goto (tgt := 129) S.1 S.2.1 dX5_begin_155 (by decide) ?_
        exact ih (i + 1) _ _ _ (by omega) (by omega) w (lv_sub hl [1, 0] rfl)
def o_X5_begin_7 (s : Nat → Int32) (f : Nat → Nat → Int32) (q : Int32) : (Nat → Int32) × (Nat → Nat → Int32) := o_X5_begin_129 s f q
set_option maxHeartbeats 4000000 in
set_option maxRecDepth 100000 in
theorem j_X5_begin_7 {p : Program} {e : Env} {st : State} {m : MethodId} {args : Array Value} {below : List Frame} {meth : Method} {c : Code} {ws0 : va_W} {sz : Nat} (l : Launch) (D : va_G) (cI cO : ClassId) (a : Nat → Nat) (R : va_W) (s : Nat → Int32) (f : Nat → Nat → Int32) (q : Int32) (S : CallFix p m c cX5_begin 3 st args wsL_law RX5) (hr : meth.sig.returnType = none) (hlk : meth.locks = false) : ∀ (n : Nat) (i : Nat) (H : Heap) (locs : List Loc) (ls : Array Slot), 49 ≤ i + n → i ≤ 48 → Wd D (kT cI cO) (va_A ws0 sz) st.heap st (mW cI cO a (upd s 0 q) (va_up (va_up f 0 (pfx i (fun _ => 0) (f 0))) 1 (pfx i (fun _ => 0) (f 1))) R) H locs → lv_has ls 3 [(0, .ref (a 0)), (2, .int (nI i))] → W p l e { frames := 0, cells := 0, slots := 0, locals := 0 } st m args below meth c H locs 0 0 (MQ below (mQv D (kT cI cO) ws0 sz (mW cI cO a (o_X5_begin_7 s f q).1 (o_X5_begin_7 s f q).2 R)) args st 0 0 (va_A ws0 sz)) (F0 m 7 ls []) := by
  intro n
  induction n with
  | zero => intro i H locs ls hfu hi w hl; exact absurd hfu (by omega)
  | succ n ih =>
    intro i H locs ls hfu hi w hl
    refine lv_iload_n S.1 S.2.1 dX5_begin_7 rfl (lv_at hl 1 rfl) ?_
    refine lv_bipush (v := 48) S.1 S.2.1 dX5_begin_8 (by decide) ?_
    refine lv_icmp_ge (tgt := 33) S.1 S.2.1 dX5_begin_10 (by decide) (fun (c_3 : 48 ≤ (nI i)) => ?_) (fun (c_3 : ¬ (48 ≤ (nI i))) => ?_)
    · have he : i = 48 := by
        have := (nI_leI (a := 48) (b := i) (by omega) (by omega)).mp c_3
        omega
      subst i
      refine lv_aload_n S.1 S.2.1 dX5_begin_33 rfl (lv_at hl 0 rfl) ?_
      refine lv_sipush (v := 500) S.1 S.2.1 dX5_begin_34 (by decide) ?_
      refine mp_1 S w lk_RX5_51 dX5_begin_37 (fun H locs (w : Wd D (kT cI cO) (va_A _ _) _ _ (mW cI cO a (upd (upd s 0 q) 1 500) (va_up (va_up f 0 (pfx 48 (fun _ => 0) (f 0))) 1 (pfx 48 (fun _ => 0) (f 1))) R) H locs) => ?_)
      refine lv_aload_n S.1 S.2.1 dX5_begin_40 rfl (lv_at hl 0 rfl) ?_
      refine lv_iconst (v := 0) S.1 S.2.1 dX5_begin_41 (by decide) ?_
      refine mp_2 S w lk_RX5_54 dX5_begin_42 (fun H locs (w : Wd D (kT cI cO) (va_A _ _) _ _ (mW cI cO a (upd (upd (upd s 0 q) 1 500) 2 0) (va_up (va_up f 0 (pfx 48 (fun _ => 0) (f 0))) 1 (pfx 48 (fun _ => 0) (f 1))) R) H locs) => ?_)
      refine lv_aload_n S.1 S.2.1 dX5_begin_45 rfl (lv_at hl 0 rfl) ?_
      refine lv_iconst (v := 0) S.1 S.2.1 dX5_begin_46 (by decide) ?_
      refine mp_3 S w lk_RX5_57 dX5_begin_47 (fun H locs (w : Wd D (kT cI cO) (va_A _ _) _ _ (mW cI cO a (upd (upd (upd (upd s 0 q) 1 500) 2 0) 3 0) (va_up (va_up f 0 (pfx 48 (fun _ => 0) (f 0))) 1 (pfx 48 (fun _ => 0) (f 1))) R) H locs) => ?_)
      refine lv_aload_n S.1 S.2.1 dX5_begin_50 rfl (lv_at hl 0 rfl) ?_
      refine lv_iconst (v := 1) S.1 S.2.1 dX5_begin_51 (by decide) ?_
      refine mp_4 S w lk_RX5_60 dX5_begin_52 (fun H locs (w : Wd D (kT cI cO) (va_A _ _) _ _ (mW cI cO a (upd (upd (upd (upd (upd s 0 q) 1 500) 2 0) 3 0) 4 1) (va_up (va_up f 0 (pfx 48 (fun _ => 0) (f 0))) 1 (pfx 48 (fun _ => 0) (f 1))) R) H locs) => ?_)
      refine lv_aload_n S.1 S.2.1 dX5_begin_55 rfl (lv_at hl 0 rfl) ?_
      refine x_ldc S lk_RX5_63 dX5_begin_56 ?_
      refine mp_5 S w lk_RX5_64 dX5_begin_58 (fun H locs (w : Wd D (kT cI cO) (va_A _ _) _ _ (mW cI cO a (upd (upd (upd (upd (upd (upd s 0 q) 1 500) 2 0) 3 0) 4 1) 5 1000000) (va_up (va_up f 0 (pfx 48 (fun _ => 0) (f 0))) 1 (pfx 48 (fun _ => 0) (f 1))) R) H locs) => ?_)
      refine lv_aload_n S.1 S.2.1 dX5_begin_61 rfl (lv_at hl 0 rfl) ?_
      refine lv_iconst (v := 4) S.1 S.2.1 dX5_begin_62 (by decide) ?_
      refine mp_6 S w lk_RX5_67 dX5_begin_63 (fun H locs (w : Wd D (kT cI cO) (va_A _ _) _ _ (mW cI cO a (upd (upd (upd (upd (upd (upd (upd s 0 q) 1 500) 2 0) 3 0) 4 1) 5 1000000) 6 4) (va_up (va_up f 0 (pfx 48 (fun _ => 0) (f 0))) 1 (pfx 48 (fun _ => 0) (f 1))) R) H locs) => ?_)
      refine lv_aload_n S.1 S.2.1 dX5_begin_66 rfl (lv_at hl 0 rfl) ?_
      refine lv_iconst (v := 0) S.1 S.2.1 dX5_begin_67 (by decide) ?_
      refine mp_7 S w lk_RX5_70 dX5_begin_68 (fun H locs (w : Wd D (kT cI cO) (va_A _ _) _ _ (mW cI cO a (upd (upd (upd (upd (upd (upd (upd (upd s 0 q) 1 500) 2 0) 3 0) 4 1) 5 1000000) 6 4) 7 0) (va_up (va_up f 0 (pfx 48 (fun _ => 0) (f 0))) 1 (pfx 48 (fun _ => 0) (f 1))) R) H locs) => ?_)
      refine lv_aload_n S.1 S.2.1 dX5_begin_71 rfl (lv_at hl 0 rfl) ?_
      refine lv_bipush (v := 10) S.1 S.2.1 dX5_begin_72 (by decide) ?_
      refine mp_8 S w lk_RX5_73 dX5_begin_74 (fun H locs (w : Wd D (kT cI cO) (va_A _ _) _ _ (mW cI cO a (upd (upd (upd (upd (upd (upd (upd (upd (upd s 0 q) 1 500) 2 0) 3 0) 4 1) 5 1000000) 6 4) 7 0) 8 10) (va_up (va_up f 0 (pfx 48 (fun _ => 0) (f 0))) 1 (pfx 48 (fun _ => 0) (f 1))) R) H locs) => ?_)
      refine lv_aload_n S.1 S.2.1 dX5_begin_77 rfl (lv_at hl 0 rfl) ?_
      refine lv_iconst (v := 2) S.1 S.2.1 dX5_begin_78 (by decide) ?_
      refine mp_9 S w lk_RX5_76 dX5_begin_79 (fun H locs (w : Wd D (kT cI cO) (va_A _ _) _ _ (mW cI cO a (upd (upd (upd (upd (upd (upd (upd (upd (upd (upd s 0 q) 1 500) 2 0) 3 0) 4 1) 5 1000000) 6 4) 7 0) 8 10) 9 2) (va_up (va_up f 0 (pfx 48 (fun _ => 0) (f 0))) 1 (pfx 48 (fun _ => 0) (f 1))) R) H locs) => ?_)
      refine lv_aload_n S.1 S.2.1 dX5_begin_82 rfl (lv_at hl 0 rfl) ?_
      refine lv_iconst (v := 0) S.1 S.2.1 dX5_begin_83 (by decide) ?_
      refine mp_10 S w (Or.inl rfl) lk_RX5_79 dX5_begin_84 (fun H locs (w : Wd D (kT cI cO) (va_A _ _) _ _ (mW cI cO a (upd (upd (upd (upd (upd (upd (upd (upd (upd (upd (upd s 0 q) 1 500) 2 0) 3 0) 4 1) 5 1000000) 6 4) 7 0) 8 10) 9 2) 10 0) (va_up (va_up f 0 (pfx 48 (fun _ => 0) (f 0))) 1 (pfx 48 (fun _ => 0) (f 1))) R) H locs) => ?_)
      refine lv_aload_n S.1 S.2.1 dX5_begin_87 rfl (lv_at hl 0 rfl) ?_
      refine lv_iconst (v := 0) S.1 S.2.1 dX5_begin_88 (by decide) ?_
      refine mp_11 S w (Or.inl rfl) lk_RX5_83 dX5_begin_89 (fun H locs (w : Wd D (kT cI cO) (va_A _ _) _ _ (mW cI cO a (upd (upd (upd (upd (upd (upd (upd (upd (upd (upd (upd (upd s 0 q) 1 500) 2 0) 3 0) 4 1) 5 1000000) 6 4) 7 0) 8 10) 9 2) 10 0) 11 0) (va_up (va_up f 0 (pfx 48 (fun _ => 0) (f 0))) 1 (pfx 48 (fun _ => 0) (f 1))) R) H locs) => ?_)
      refine lv_aload_n S.1 S.2.1 dX5_begin_92 rfl (lv_at hl 0 rfl) ?_
      refine lv_iconst (v := 0) S.1 S.2.1 dX5_begin_93 (by decide) ?_
      refine mp_12 S w lk_RX5_86 dX5_begin_94 (fun H locs (w : Wd D (kT cI cO) (va_A _ _) _ _ (mW cI cO a (upd (upd (upd (upd (upd (upd (upd (upd (upd (upd (upd (upd (upd s 0 q) 1 500) 2 0) 3 0) 4 1) 5 1000000) 6 4) 7 0) 8 10) 9 2) 10 0) 11 0) 12 0) (va_up (va_up f 0 (pfx 48 (fun _ => 0) (f 0))) 1 (pfx 48 (fun _ => 0) (f 1))) R) H locs) => ?_)
      refine lv_aload_n S.1 S.2.1 dX5_begin_97 rfl (lv_at hl 0 rfl) ?_
      refine lv_iconst (v := 0) S.1 S.2.1 dX5_begin_98 (by decide) ?_
      refine mp_13 S w lk_RX5_89 dX5_begin_99 (fun H locs (w : Wd D (kT cI cO) (va_A _ _) _ _ (mW cI cO a (upd (upd (upd (upd (upd (upd (upd (upd (upd (upd (upd (upd (upd (upd s 0 q) 1 500) 2 0) 3 0) 4 1) 5 1000000) 6 4) 7 0) 8 10) 9 2) 10 0) 11 0) 12 0) 13 0) (va_up (va_up f 0 (pfx 48 (fun _ => 0) (f 0))) 1 (pfx 48 (fun _ => 0) (f 1))) R) H locs) => ?_)
      refine lv_aload_n S.1 S.2.1 dX5_begin_102 rfl (lv_at hl 0 rfl) ?_
      refine lv_iconst (v := 0) S.1 S.2.1 dX5_begin_103 (by decide) ?_
      refine mp_19 S w lk_RX5_92 dX5_begin_104 (fun H locs (w : Wd D (kT cI cO) (va_A _ _) _ _ (mW cI cO a (upd (upd (upd (upd (upd (upd (upd (upd (upd (upd (upd (upd (upd (upd (upd s 0 q) 1 500) 2 0) 3 0) 4 1) 5 1000000) 6 4) 7 0) 8 10) 9 2) 10 0) 11 0) 12 0) 13 0) 19 0) (va_up (va_up f 0 (pfx 48 (fun _ => 0) (f 0))) 1 (pfx 48 (fun _ => 0) (f 1))) R) H locs) => ?_)
      refine lv_aload_n S.1 S.2.1 dX5_begin_107 rfl (lv_at hl 0 rfl) ?_
      refine lv_iconst (v := 0) S.1 S.2.1 dX5_begin_108 (by decide) ?_
      refine mp_14 S w lk_RX5_95 dX5_begin_109 (fun H locs (w : Wd D (kT cI cO) (va_A _ _) _ _ (mW cI cO a (upd (upd (upd (upd (upd (upd (upd (upd (upd (upd (upd (upd (upd (upd (upd (upd s 0 q) 1 500) 2 0) 3 0) 4 1) 5 1000000) 6 4) 7 0) 8 10) 9 2) 10 0) 11 0) 12 0) 13 0) 19 0) 14 0) (va_up (va_up f 0 (pfx 48 (fun _ => 0) (f 0))) 1 (pfx 48 (fun _ => 0) (f 1))) R) H locs) => ?_)
      refine lv_aload_n S.1 S.2.1 dX5_begin_112 rfl (lv_at hl 0 rfl) ?_
      refine lv_iconst (v := 0) S.1 S.2.1 dX5_begin_113 (by decide) ?_
      refine mp_15 S w lk_RX5_98 dX5_begin_114 (fun H locs (w : Wd D (kT cI cO) (va_A _ _) _ _ (mW cI cO a (upd (upd (upd (upd (upd (upd (upd (upd (upd (upd (upd (upd (upd (upd (upd (upd (upd s 0 q) 1 500) 2 0) 3 0) 4 1) 5 1000000) 6 4) 7 0) 8 10) 9 2) 10 0) 11 0) 12 0) 13 0) 19 0) 14 0) 15 0) (va_up (va_up f 0 (pfx 48 (fun _ => 0) (f 0))) 1 (pfx 48 (fun _ => 0) (f 1))) R) H locs) => ?_)
      refine lv_aload_n S.1 S.2.1 dX5_begin_117 rfl (lv_at hl 0 rfl) ?_
      refine lv_iconst (v := 0) S.1 S.2.1 dX5_begin_118 (by decide) ?_
      refine mp_16 S w lk_RX5_101 dX5_begin_119 (fun H locs (w : Wd D (kT cI cO) (va_A _ _) _ _ (mW cI cO a (upd (upd (upd (upd (upd (upd (upd (upd (upd (upd (upd (upd (upd (upd (upd (upd (upd (upd s 0 q) 1 500) 2 0) 3 0) 4 1) 5 1000000) 6 4) 7 0) 8 10) 9 2) 10 0) 11 0) 12 0) 13 0) 19 0) 14 0) 15 0) 16 0) (va_up (va_up f 0 (pfx 48 (fun _ => 0) (f 0))) 1 (pfx 48 (fun _ => 0) (f 1))) R) H locs) => ?_)
      refine lv_aload_n S.1 S.2.1 dX5_begin_122 rfl (lv_at hl 0 rfl) ?_
      refine lv_iconst (v := (-1)) S.1 S.2.1 dX5_begin_123 (by decide) ?_
      refine mp_22 S w lk_RX5_104 dX5_begin_124 (fun H locs (w : Wd D (kT cI cO) (va_A _ _) _ _ (mW cI cO a (upd (upd (upd (upd (upd (upd (upd (upd (upd (upd (upd (upd (upd (upd (upd (upd (upd (upd (upd s 0 q) 1 500) 2 0) 3 0) 4 1) 5 1000000) 6 4) 7 0) 8 10) 9 2) 10 0) 11 0) 12 0) 13 0) 19 0) 14 0) 15 0) 16 0) 22 (-1)) (va_up (va_up f 0 (pfx 48 (fun _ => 0) (f 0))) 1 (pfx 48 (fun _ => 0) (f 1))) R) H locs) => ?_)
      refine lv_iconst (v := 0) S.1 S.2.1 dX5_begin_127 (by decide) ?_
      refine lv_istore_n (lv' := [(2, .int 0), (0, .ref (a 0))]) S.1 S.2.1 dX5_begin_128 rfl hl (by decide) rfl (fun ls hl => ?_)
      refine x_tov  (show mW cI cO a (o_X5_begin_129 s f q).1 (o_X5_begin_129 s f q).2 R = mW cI cO a (o_X5_begin_7 s f q).1 (o_X5_begin_7 s f q).2 R from by simp only [o_X5_begin_7]) ?_
      exact j_X5_begin_129 l D cI cO a R s f q S hr hlk 7 0 _ _ _ (by omega) (by omega) (w.to (show mW cI cO a (upd (upd (upd (upd (upd (upd (upd (upd (upd (upd (upd (upd (upd (upd (upd (upd (upd (upd (upd s 0 q) 1 500) 2 0) 3 0) 4 1) 5 1000000) 6 4) 7 0) 8 10) 9 2) 10 0) 11 0) 12 0) 13 0) 19 0) 14 0) 15 0) 16 0) 22 (-1)) (va_up (va_up f 0 (pfx 48 (fun _ => 0) (f 0))) 1 (pfx 48 (fun _ => 0) (f 1))) R = mW cI cO a (upd (upd (upd (upd (upd (upd (upd (upd (upd (upd (upd (upd (upd (upd (upd (upd (upd (upd (upd s 0 q) 1 500) 2 0) 3 0) 4 1) 5 1000000) 6 4) 7 0) 8 10) 9 2) 10 0) 11 0) 12 0) 13 0) 19 0) 14 0) 15 0) 16 0) 22 (-1)) (va_up (va_up (va_up f 0 (pfx 48 (fun _ => 0) (f 0))) 1 (pfx 48 (fun _ => 0) (f 1))) 6 (pfx 0 (fun y => if y = 0 then 1000 else 0) (f 6))) R from m_f va_first.symm)) (lv_sub hl [1, 0] rfl)
    · have hlt : i < 48 := Nat.lt_of_not_le (fun z => c_3 (nI_le z (by omega)))
      refine lv_aload_n S.1 S.2.1 dX5_begin_13 rfl (lv_at hl 0 rfl) ?_
      refine mr_1 S w lk_RX5_7 dX5_begin_14 ?_
      refine lv_iload_n S.1 S.2.1 dX5_begin_17 rfl (lv_at hl 1 rfl) ?_
      refine lv_iconst (v := 0) S.1 S.2.1 dX5_begin_18 (by decide) ?_
      refine x_iast S w 1 0 (g := pfx i (fun _ => 0) (f 0)) i (by omega) (rfl) (Nat.le_of_ble_eq_true rfl) (mc_1) rfl (ms_0) dX5_begin_19 (fun H locs (w : Wd D (kT cI cO) (va_A _ _) _ _ (mW cI cO a (upd s 0 q) (va_up (va_up (va_up f 0 (pfx i (fun _ => 0) (f 0))) 1 (pfx i (fun _ => 0) (f 1))) 0 (upd (pfx i (fun _ => 0) (f 0)) i 0)) R) H locs) => ?_)
      have w := w.to (show mW cI cO a (upd s 0 q) (va_up (va_up (va_up f 0 (pfx i (fun _ => 0) (f 0))) 1 (pfx i (fun _ => 0) (f 1))) 0 (upd (pfx i (fun _ => 0) (f 0)) i 0)) R = mW cI cO a (upd s 0 q) (va_up (va_up f 0 (pfx (i + 1) (fun _ => 0) (f 0))) 1 (pfx i (fun _ => 0) (f 1))) R from m_f (by rw [va_2a (by decide), pfx_upd rfl]))
      refine lv_aload_n S.1 S.2.1 dX5_begin_20 rfl (lv_at hl 0 rfl) ?_
      refine mr_2 S w lk_RX5_13 dX5_begin_21 ?_
      refine lv_iload_n S.1 S.2.1 dX5_begin_24 rfl (lv_at hl 1 rfl) ?_
      refine lv_iconst (v := 0) S.1 S.2.1 dX5_begin_25 (by decide) ?_
      refine x_iast S w 2 0 (g := pfx i (fun _ => 0) (f 1)) i (by omega) (rfl) (Nat.le_of_ble_eq_true rfl) (mc_2) rfl (ms_1) dX5_begin_26 (fun H locs (w : Wd D (kT cI cO) (va_A _ _) _ _ (mW cI cO a (upd s 0 q) (va_up (va_up (va_up f 0 (pfx (i + 1) (fun _ => 0) (f 0))) 1 (pfx i (fun _ => 0) (f 1))) 1 (upd (pfx i (fun _ => 0) (f 1)) i 0)) R) H locs) => ?_)
      have w := w.to (show mW cI cO a (upd s 0 q) (va_up (va_up (va_up f 0 (pfx (i + 1) (fun _ => 0) (f 0))) 1 (pfx i (fun _ => 0) (f 1))) 1 (upd (pfx i (fun _ => 0) (f 1)) i 0)) R = mW cI cO a (upd s 0 q) (va_up (va_up f 0 (pfx (i + 1) (fun _ => 0) (f 0))) 1 (pfx (i + 1) (fun _ => 0) (f 1))) R from m_f (va_step' rfl))
      refine lv_iinc (v := nI (i + 1)) (lv' := [(2, .int (nI (i + 1))), (0, .ref (a 0))]) S.1 S.2.1 dX5_begin_27 hl (k := 1) rfl (x_inc _) (by decide) rfl (fun ls hl => ?_)
      refine lv_goto (tgt := 7) S.1 S.2.1 dX5_begin_30 (by decide) ?_
      exact ih (i + 1) _ _ _ (by omega) (by omega) w (lv_sub hl [1, 0] rfl)
def o_X5_begin (s : Nat → Int32) (f : Nat → Nat → Int32) (q : Int32) : (Nat → Int32) × (Nat → Nat → Int32) := o_X5_begin_7 s f q
set_option maxHeartbeats 4000000 in
set_option maxRecDepth 100000 in
theorem k_X5_begin (l : Launch) (D : va_G) (cI cO : ClassId) (a : Nat → Nat) (R : va_W) (s : Nat → Int32) (f : Nat → Nat → Int32) (q : Int32) : Mv l yX5_begin cX5_begin 3 none { frames := 0, cells := 0, slots := 0, locals := 0 } D (kT cI cO) (mW cI cO a s f R) [.ref (a 0), .int q] (mW cI cO a (o_X5_begin s f q).1 (o_X5_begin s f q).2 R) := by
  intro sz
  refine ent (by decide +kernel) (Nat.le_of_ble_eq_true rfl) ?_
  intro p e st m below meth c ls S hr hlk hnm w hsz hl
  have hl : lv_has ls 3 [(0, .ref (a 0)), (1, .int q)] := hl
  refine lv_aload_n S.1 S.2.1 dX5_begin_0 rfl (lv_at hl 0 rfl) ?_
  refine lv_iload_n S.1 S.2.1 dX5_begin_1 rfl (lv_at hl 1 rfl) ?_
  refine mp_0 S w lk_RX5_47 dX5_begin_2 (fun H locs (w : Wd D (kT cI cO) (va_A _ _) _ _ (mW cI cO a (upd s 0 q) f R) H locs) => ?_)
  refine lv_iconst (v := 0) S.1 S.2.1 dX5_begin_5 (by decide) ?_
  refine lv_istore_n (lv' := [(2, .int 0), (0, .ref (a 0)), (1, .int q)]) S.1 S.2.1 dX5_begin_6 rfl hl (by decide) rfl (fun ls hl => ?_)
  refine x_tov  (show mW cI cO a (o_X5_begin_7 s f q).1 (o_X5_begin_7 s f q).2 R = mW cI cO a (o_X5_begin s f q).1 (o_X5_begin s f q).2 R from by simp only [o_X5_begin]) ?_
  exact j_X5_begin_7 l D cI cO a R s f q S hr hlk 49 0 _ _ _ (by omega) (by omega) (w.to (show mW cI cO a (upd s 0 q) f R = mW cI cO a (upd s 0 q) (va_up (va_up f 0 (pfx 0 (fun _ => 0) (f 0))) 1 (pfx 0 (fun _ => 0) (f 1))) R from m_f (by rw [pfx_0, pfx_0, va_self, va_self]))) (lv_sub hl [1, 0] rfl)
def o_X5_reset (s : Nat → Int32) (f : Nat → Nat → Int32) (q : Int32) : Int32 × (Nat → Int32) × (Nat → Nat → Int32) := if (wIn q 4 48) = 0 then ((-2000000001), s, f) else (s 0, upd (upd (upd (upd (upd (upd (upd (upd (upd (upd (upd (upd (upd (upd (upd (upd (upd (upd (upd (upd (upd s 0 q) 1 500) 2 0) 3 0) 4 1) 5 1000000) 6 4) 7 0) 8 10) 9 2) 10 0) 11 0) 12 0) 13 0) 19 0) 14 0) 15 0) 16 0) 22 (-1)) 17 0) 18 0, va_up (va_up (va_up f 0 (pfx 48 (fun _ => 0) (f 0))) 1 (pfx 48 (fun _ => 0) (f 1))) 6 (pfx 6 (fun y => if y = 0 then 1000 else 0) (f 6)))
set_option maxHeartbeats 4000000 in
set_option maxRecDepth 100000 in
theorem k_X5_reset (l : Launch) (D : va_G) (cI cO : ClassId) (a : Nat → Nat) (R : va_W) (s : Nat → Int32) (f : Nat → Nat → Int32) (q : Int32) : Mi l yX5_reset cX5_reset 3 (some .int) { frames := 1, cells := 0, slots := 0, locals := 22 } D (kT cI cO) (mW cI cO a s f R) [.ref (a 0), .int q] (mW cI cO a (o_X5_reset s f q).2.1 (o_X5_reset s f q).2.2 R) (o_X5_reset s f q).1 := by
  intro sz
  refine ent (by decide +kernel) (Nat.le_of_ble_eq_true rfl) ?_
  intro p e st m below meth c ls S hr hlk hnm w hsz hl
  have hl : lv_has ls 3 [(0, .ref (a 0)), (1, .int q)] := hl
  refine lv_iload_n S.1 S.2.1 dX5_reset_0 rfl (lv_at hl 1 rfl) ?_
  refine lv_iconst (v := 4) S.1 S.2.1 dX5_reset_1 (by decide) ?_
  refine lv_bipush (v := 48) S.1 S.2.1 dX5_reset_2 (by decide) ?_
  refine x_Si (As := [.int q, .int 4, .int 48]) (rest := []) S w (goodS lk_RX5_113 lt_X5_in ln_RX5 lc_X5_in) hd_X5_in (k_X5_in l _ _ (mW cI cO a s f R) q 4 48) rfl ⟨(Nat.le_of_ble_eq_true rfl), (Nat.le_of_ble_eq_true rfl)⟩ ⟨rfl, rfl⟩ hl.1 rfl (Nat.le_of_ble_eq_true rfl) ⟨Nat.zero_le _, Nat.zero_le _⟩ dX5_reset_4 (fun H locs (w : Wd D (kT cI cO) (va_A _ _) _ _ (mW cI cO a s f R) H locs) => ?_)
  refine lv_if_ne (tgt := 13) S.1 S.2.1 dX5_reset_7 (by decide) (fun (c_1 : ¬ (wIn q 4 48) = 0) => ?_) (fun (c_1 : (wIn q 4 48) = 0) => ?_)
  · refine lv_aload_n S.1 S.2.1 dX5_reset_13 rfl (lv_at hl 0 rfl) ?_
    refine mg_0 S w lk_RX5_47 dX5_reset_14 ?_
    refine lv_istore_n (lv' := [(2, .int (s 0)), (0, .ref (a 0)), (1, .int q)]) S.1 S.2.1 dX5_reset_17 rfl hl (by decide) rfl (fun ls hl => ?_)
    refine lv_aload_n S.1 S.2.1 dX5_reset_18 rfl (lv_at hl 1 rfl) ?_
    refine lv_iload_n S.1 S.2.1 dX5_reset_19 rfl (lv_at hl 2 rfl) ?_
    refine x_Vv (As := [.int q]) (rest := []) S w (goodV lk_RX5_43 li_X5_begin ls_X5_begin ln_RX5 lc_X5_begin) hV_X5_begin (k_X5_begin l D cI cO a R s f q) rfl 0 5 rfl rfl mc_0 ⟨(Nat.le_of_ble_eq_true rfl), (Nat.le_of_ble_eq_true rfl)⟩ ⟨rfl, rfl⟩ hl.1 rfl (Nat.le_of_ble_eq_true rfl) ⟨Nat.zero_le _, Nat.zero_le _⟩ dX5_reset_20 (fun H locs (w : Wd D (kT cI cO) (va_A _ _) _ _ (mW cI cO a (upd (upd (upd (upd (upd (upd (upd (upd (upd (upd (upd (upd (upd (upd (upd (upd (upd (upd (upd (upd (upd s 0 q) 1 500) 2 0) 3 0) 4 1) 5 1000000) 6 4) 7 0) 8 10) 9 2) 10 0) 11 0) 12 0) 13 0) 19 0) 14 0) 15 0) 16 0) 22 (-1)) 17 0) 18 0) (va_up (va_up (va_up f 0 (pfx 48 (fun _ => 0) (f 0))) 1 (pfx 48 (fun _ => 0) (f 1))) 6 (pfx 6 (fun y => if y = 0 then 1000 else 0) (f 6))) R) H locs) => ?_)
    refine lv_iload_n S.1 S.2.1 dX5_reset_23 rfl (lv_at hl 0 rfl) ?_
    exact x_reti S w hr hlk dX5_reset_24 (show s 0 = (o_X5_reset s f q).1 from by simp only [o_X5_reset, if_neg c_1]) (show mW cI cO a (upd (upd (upd (upd (upd (upd (upd (upd (upd (upd (upd (upd (upd (upd (upd (upd (upd (upd (upd (upd (upd s 0 q) 1 500) 2 0) 3 0) 4 1) 5 1000000) 6 4) 7 0) 8 10) 9 2) 10 0) 11 0) 12 0) 13 0) 19 0) 14 0) 15 0) 16 0) 22 (-1)) 17 0) 18 0) (va_up (va_up (va_up f 0 (pfx 48 (fun _ => 0) (f 0))) 1 (pfx 48 (fun _ => 0) (f 1))) 6 (pfx 6 (fun y => if y = 0 then 1000 else 0) (f 6))) R = mW cI cO a (o_X5_reset s f q).2.1 (o_X5_reset s f q).2.2 R from by simp only [o_X5_reset, if_neg c_1])
  · refine x_ldc S lk_RX5_117 dX5_reset_10 ?_
    exact x_reti S w hr hlk dX5_reset_12 (show (-2000000001) = (o_X5_reset s f q).1 from by simp only [o_X5_reset, if_pos c_1]) (show mW cI cO a s f R = mW cI cO a (o_X5_reset s f q).2.1 (o_X5_reset s f q).2.2 R from by simp only [o_X5_reset, if_pos c_1])
def o_X5_smooth_110 (s : Nat → Int32) (f : Nat → Nat → Int32) (N : Nat) : (Nat → Nat → Int32) := va_up (va_up f 2 (pfx N (smF s f N) (f 2))) 1 (pfx N (smF s f N) (f 1))
set_option maxHeartbeats 4000000 in
set_option maxRecDepth 100000 in
theorem j_X5_smooth_110 {p : Program} {e : Env} {st : State} {m : MethodId} {args : Array Value} {below : List Frame} {meth : Method} {c : Code} {ws0 : va_W} {sz : Nat} (l : Launch) (D : va_G) (cI cO : ClassId) (a : Nat → Nat) (R : va_W) (s : Nat → Int32) (f : Nat → Nat → Int32) (N : Nat) (wt : Nat) (hN : s 0 = nI N) (h4 : 4 ≤ N) (h48 : N ≤ 48) (hw : s 3 = nI wt) (hw3 : wt ≤ 333) (S : CallFix p m c cX5_smooth 6 st args wsL_law RX5) (hr : meth.sig.returnType = none) (hlk : meth.locks = false) : ∀ (n : Nat) (i : Nat) (H : Heap) (locs : List Loc) (ls : Array Slot), N + 1 ≤ i + n → i ≤ N → Wd D (kT cI cO) (va_A ws0 sz) st.heap st (mW cI cO a s (va_up (va_up f 2 (pfx N (smF s f N) (f 2))) 1 (pfx i (smF s f N) (f 1))) R) H locs → lv_has ls 6 [(0, .ref (a 0)), (1, .int (nI i))] → W p l e { frames := 1, cells := 0, slots := 0, locals := 25 } st m args below meth c H locs 0 0 (MQ below (mQv D (kT cI cO) ws0 sz (mW cI cO a s (o_X5_smooth_110 s f N) R)) args st 0 0 (va_A ws0 sz)) (F0 m 110 ls []) := by
  intro n
  induction n with
  | zero => intro i H locs ls hfu hi w hl; exact absurd hfu (by omega)
  | succ n ih =>
    intro i H locs ls hfu hi w hl
    refine lv_iload_n S.1 S.2.1 dX5_smooth_110 rfl (lv_at hl 1 rfl) ?_
    refine lv_aload_n S.1 S.2.1 dX5_smooth_111 rfl (lv_at hl 0 rfl) ?_
    refine mg_0 S w lk_RX5_47 dX5_smooth_112 ?_
    refine x_eqi (x := s 0) (y := nI N) (hN) ?_
    refine lv_icmp_ge (tgt := 136) S.1 S.2.1 dX5_smooth_115 (by decide) (fun (c_1 : (nI N) ≤ (nI i)) => ?_) (fun (c_1 : ¬ ((nI N) ≤ (nI i))) => ?_)
    · have he : i = N := by
        have := (nI_leI (a := N) (b := i) (by omega) (by omega)).mp c_1
        omega
      subst i
      exact x_retv S w hr hlk dX5_smooth_136 (show mW cI cO a s (va_up (va_up f 2 (pfx N (smF s f N) (f 2))) 1 (pfx N (smF s f N) (f 1))) R = mW cI cO a s (o_X5_smooth_110 s f N) R from by simp only [o_X5_smooth_110])
    · have hlt : i < N := Nat.lt_of_not_le (fun z => c_1 (nI_le z (by omega)))
      refine lv_aload_n S.1 S.2.1 dX5_smooth_118 rfl (lv_at hl 0 rfl) ?_
      refine mr_2 S w lk_RX5_13 dX5_smooth_119 ?_
      refine lv_iload_n S.1 S.2.1 dX5_smooth_122 rfl (lv_at hl 1 rfl) ?_
      refine lv_aload_n S.1 S.2.1 dX5_smooth_123 rfl (lv_at hl 0 rfl) ?_
      refine mr_3 S w lk_RX5_22 dX5_smooth_124 ?_
      refine lv_iload_n S.1 S.2.1 dX5_smooth_127 rfl (lv_at hl 1 rfl) ?_
      refine x_iald S w 3 0 (g := pfx N (smF s f N) (f 2)) (v := smF s f N i) i (by omega) (rfl) (Nat.le_of_ble_eq_true rfl) (mc_3) rfl (pfx_lt _ _ hlt) dX5_smooth_128 ?_
      refine x_iast S w 2 0 (g := pfx i (smF s f N) (f 1)) i (by omega) (rfl) (Nat.le_of_ble_eq_true rfl) (mc_2) rfl (ms_1) dX5_smooth_129 (fun H locs (w : Wd D (kT cI cO) (va_A _ _) _ _ (mW cI cO a s (va_up (va_up (va_up f 2 (pfx N (smF s f N) (f 2))) 1 (pfx i (smF s f N) (f 1))) 1 (upd (pfx i (smF s f N) (f 1)) i (smF s f N i))) R) H locs) => ?_)
      have w := w.to (show mW cI cO a s (va_up (va_up (va_up f 2 (pfx N (smF s f N) (f 2))) 1 (pfx i (smF s f N) (f 1))) 1 (upd (pfx i (smF s f N) (f 1)) i (smF s f N i))) R = mW cI cO a s (va_up (va_up f 2 (pfx N (smF s f N) (f 2))) 1 (pfx (i + 1) (smF s f N) (f 1))) R from m_f (va_step' rfl))
      refine lv_iinc (v := nI (i + 1)) (lv' := [(1, .int (nI (i + 1))), (0, .ref (a 0))]) S.1 S.2.1 dX5_smooth_130 hl (k := 1) rfl (x_inc _) (by decide) rfl (fun ls hl => ?_)
      refine lv_goto (tgt := 110) S.1 S.2.1 dX5_smooth_133 (by decide) ?_
      exact ih (i + 1) _ _ _ (by omega) (by omega) w (lv_sub hl [1, 0] rfl)
def o_X5_smooth_2 (s : Nat → Int32) (f : Nat → Nat → Int32) (N : Nat) : (Nat → Nat → Int32) := o_X5_smooth_110 s f N
set_option maxHeartbeats 4000000 in
set_option maxRecDepth 100000 in
theorem j_X5_smooth_2 {p : Program} {e : Env} {st : State} {m : MethodId} {args : Array Value} {below : List Frame} {meth : Method} {c : Code} {ws0 : va_W} {sz : Nat} (l : Launch) (D : va_G) (cI cO : ClassId) (a : Nat → Nat) (R : va_W) (s : Nat → Int32) (f : Nat → Nat → Int32) (N : Nat) (wt : Nat) (hN : s 0 = nI N) (h4 : 4 ≤ N) (h48 : N ≤ 48) (hw : s 3 = nI wt) (hw3 : wt ≤ 333) (S : CallFix p m c cX5_smooth 6 st args wsL_law RX5) (hr : meth.sig.returnType = none) (hlk : meth.locks = false) : ∀ (n : Nat) (i : Nat) (H : Heap) (locs : List Loc) (ls : Array Slot), N + 1 ≤ i + n → i ≤ N → Wd D (kT cI cO) (va_A ws0 sz) st.heap st (mW cI cO a s (va_up f 2 (pfx i (smF s f N) (f 2))) R) H locs → lv_has ls 6 [(0, .ref (a 0)), (1, .int (nI i))] → W p l e { frames := 1, cells := 0, slots := 0, locals := 25 } st m args below meth c H locs 0 0 (MQ below (mQv D (kT cI cO) ws0 sz (mW cI cO a s (o_X5_smooth_2 s f N) R)) args st 0 0 (va_A ws0 sz)) (F0 m 2 ls []) := by
  intro n
  induction n with
  | zero => intro i H locs ls hfu hi w hl; exact absurd hfu (by omega)
  | succ n ih =>
    intro i H locs ls hfu hi w hl
    refine lv_iload_n S.1 S.2.1 dX5_smooth_2 rfl (lv_at hl 1 rfl) ?_
    refine lv_aload_n S.1 S.2.1 dX5_smooth_3 rfl (lv_at hl 0 rfl) ?_
    refine mg_0 S w lk_RX5_47 dX5_smooth_4 ?_
    refine x_eqi (x := s 0) (y := nI N) (hN) ?_
    refine lv_icmp_ge (tgt := 108) S.1 S.2.1 dX5_smooth_7 (by decide) (fun (c_2 : (nI N) ≤ (nI i)) => ?_) (fun (c_2 : ¬ ((nI N) ≤ (nI i))) => ?_)
    · have he : i = N := by
        have := (nI_leI (a := N) (b := i) (by omega) (by omega)).mp c_2
        omega
      subst i
      refine lv_iconst (v := 0) S.1 S.2.1 dX5_smooth_108 (by decide) ?_
      refine lv_istore_n (lv' := [(1, .int 0), (0, .ref (a 0))]) S.1 S.2.1 dX5_smooth_109 rfl hl (by decide) rfl (fun ls hl => ?_)
      refine x_tov  (show mW cI cO a s (o_X5_smooth_110 s f N) R = mW cI cO a s (o_X5_smooth_2 s f N) R from by simp only [o_X5_smooth_2]) ?_
      exact j_X5_smooth_110 l D cI cO a R s f N wt hN h4 h48 hw hw3 S hr hlk (N + 1) 0 _ _ _ (by omega) (by omega) (w.to (show mW cI cO a s (va_up f 2 (pfx N (smF s f N) (f 2))) R = mW cI cO a s (va_up (va_up f 2 (pfx N (smF s f N) (f 2))) 1 (pfx 0 (smF s f N) (f 1))) R from m_f va_first.symm)) (lv_sub hl [1, 0] rfl)
    · have hlt : i < N := Nat.lt_of_not_le (fun z => c_2 (nI_le z (by omega)))
      refine lv_aload_n S.1 S.2.1 dX5_smooth_10 rfl (lv_at hl 0 rfl) ?_
      refine mr_2 S w lk_RX5_13 dX5_smooth_11 ?_
      refine lv_iload_n S.1 S.2.1 dX5_smooth_14 rfl (lv_at hl 1 rfl) ?_
      refine lv_if_ne (tgt := 22) S.1 S.2.1 dX5_smooth_15 (by decide) (fun (c_3 : ¬ (nI i) = 0) => ?_) (fun (c_3 : (nI i) = 0) => ?_)
      · have hi0 : i ≠ 0 := fun z => c_3 (by rw [z]; rfl)
        refine lv_iload_n S.1 S.2.1 dX5_smooth_22 rfl (lv_at hl 1 rfl) ?_
        refine lv_iconst (v := 1) S.1 S.2.1 dX5_smooth_23 (by decide) ?_
        refine lv_isub S.1 S.2.1 dX5_smooth_24 ?_
        refine x_eqi (x := (nI i) - 1) (y := nI (i - 1)) (pk_sub (b := 1) (by omega)) ?_
        refine x_iald S w 2 0 (g := f 1) (v := (f 1) (i - 1)) (i - 1) (by omega) (rfl) (Nat.le_of_ble_eq_true rfl) (mc_2) rfl (rfl) dX5_smooth_25 ?_
        refine lv_i2l S.1 S.2.1 dX5_smooth_26 rfl ?_
        refine lv_lstore_n (lv' := [(2, .long (Int32.toInt64 ((f 1) (i - 1)))), (0, .ref (a 0)), (1, .int (nI i))]) S.1 S.2.1 dX5_smooth_27 rfl hl (by decide) rfl (fun ls hl => ?_)
        refine lv_aload_n S.1 S.2.1 dX5_smooth_28 rfl (lv_at hl 1 rfl) ?_
        refine mr_2 S w lk_RX5_13 dX5_smooth_29 ?_
        refine lv_iload_n S.1 S.2.1 dX5_smooth_32 rfl (lv_at hl 2 rfl) ?_
        refine lv_aload_n S.1 S.2.1 dX5_smooth_33 rfl (lv_at hl 1 rfl) ?_
        refine mg_0 S w lk_RX5_47 dX5_smooth_34 ?_
        refine x_eqi (x := s 0) (y := nI N) (hN) ?_
        refine lv_iconst (v := 1) S.1 S.2.1 dX5_smooth_37 (by decide) ?_
        refine lv_isub S.1 S.2.1 dX5_smooth_38 ?_
        refine x_eqi (x := (nI N) - 1) (y := nI (N - 1)) (pk_sub (b := 1) (by omega)) ?_
        refine lv_icmp_ne (tgt := 46) S.1 S.2.1 dX5_smooth_39 (by decide) (fun (c_4 : ¬ (nI i) = (nI (N - 1))) => ?_) (fun (c_4 : (nI i) = (nI (N - 1))) => ?_)
        · have hiN : i ≠ N - 1 := fun z => c_4 (by rw [z])
          refine lv_iload_n S.1 S.2.1 dX5_smooth_46 rfl (lv_at hl 2 rfl) ?_
          refine lv_iconst (v := 1) S.1 S.2.1 dX5_smooth_47 (by decide) ?_
          refine lv_iadd S.1 S.2.1 dX5_smooth_48 ?_
          refine x_eqi (x := (nI i) + 1) (y := nI (min (i + 1) (N - 1))) (by rw [nI_1]; congr 1; omega) ?_
          refine x_iald S w 2 0 (g := f 1) (v := (f 1) (min (i + 1) (N - 1))) (min (i + 1) (N - 1)) (by omega) (rfl) (Nat.le_of_ble_eq_true rfl) (mc_2) rfl (rfl) dX5_smooth_49 ?_
          refine lv_i2l S.1 S.2.1 dX5_smooth_50 rfl ?_
          refine lv_lstore (lv' := [(4, .long (Int32.toInt64 ((f 1) (min (i + 1) (N - 1))))), (2, .long (Int32.toInt64 ((f 1) (i - 1)))), (0, .ref (a 0)), (1, .int (nI i))]) S.1 S.2.1 dX5_smooth_51 hl (by decide) rfl (fun ls hl => ?_)
          refine lv_aload_n S.1 S.2.1 dX5_smooth_53 rfl (lv_at hl 2 rfl) ?_
          refine mr_3 S w lk_RX5_22 dX5_smooth_54 ?_
          refine lv_iload_n S.1 S.2.1 dX5_smooth_57 rfl (lv_at hl 3 rfl) ?_
          refine lv_aload_n S.1 S.2.1 dX5_smooth_58 rfl (lv_at hl 2 rfl) ?_
          refine mg_3 S w lk_RX5_57 dX5_smooth_59 ?_
          refine lv_i2l S.1 S.2.1 dX5_smooth_62 rfl ?_
          refine lv_lload_n S.1 S.2.1 dX5_smooth_63 rfl (lv_at hl 1 rfl) ?_
          refine lv_lmul S.1 S.2.1 dX5_smooth_64 ?_
          refine lv_sipush (v := 1000) S.1 S.2.1 dX5_smooth_65 (by decide) ?_
          refine lv_iconst (v := 2) S.1 S.2.1 dX5_smooth_68 (by decide) ?_
          refine lv_aload_n S.1 S.2.1 dX5_smooth_69 rfl (lv_at hl 2 rfl) ?_
          refine mg_3 S w lk_RX5_57 dX5_smooth_70 ?_
          refine lv_imul S.1 S.2.1 dX5_smooth_73 ?_
          refine lv_isub S.1 S.2.1 dX5_smooth_74 ?_
          refine lv_i2l S.1 S.2.1 dX5_smooth_75 rfl ?_
          refine x_eql (x := Int32.toInt64 (1000 - (2 * (s 3)))) (y := 1000 - 2 * Int32.toInt64 (s 3)) (mid_eq hw hw3) ?_
          refine lv_aload_n S.1 S.2.1 dX5_smooth_76 rfl (lv_at hl 2 rfl) ?_
          refine mr_2 S w lk_RX5_13 dX5_smooth_77 ?_
          refine lv_iload_n S.1 S.2.1 dX5_smooth_80 rfl (lv_at hl 3 rfl) ?_
          refine x_iald S w 2 0 (g := f 1) (v := (f 1) i) i (by omega) (rfl) (Nat.le_of_ble_eq_true rfl) (mc_2) rfl (rfl) dX5_smooth_81 ?_
          refine lv_i2l S.1 S.2.1 dX5_smooth_82 rfl ?_
          refine lv_lmul S.1 S.2.1 dX5_smooth_83 ?_
          refine lv_ladd S.1 S.2.1 dX5_smooth_84 ?_
          refine lv_aload_n S.1 S.2.1 dX5_smooth_85 rfl (lv_at hl 2 rfl) ?_
          refine mg_3 S w lk_RX5_57 dX5_smooth_86 ?_
          refine lv_i2l S.1 S.2.1 dX5_smooth_89 rfl ?_
          refine lv_lload S.1 S.2.1 dX5_smooth_90 (lv_at hl 0 rfl) ?_
          refine lv_lmul S.1 S.2.1 dX5_smooth_92 ?_
          refine lv_ladd S.1 S.2.1 dX5_smooth_93 ?_
          refine x_ldc2 S lk_RX5_123 dX5_smooth_94 ?_
          refine x_Sl (As := [.long ((((Int32.toInt64 (s 3)) * (Int32.toInt64 ((f 1) (i - 1)))) + ((1000 - 2 * Int32.toInt64 (s 3)) * (Int32.toInt64 ((f 1) i)))) + ((Int32.toInt64 (s 3)) * (Int32.toInt64 ((f 1) (min (i + 1) (N - 1)))))), .long 1000]) (rest := [.int (nI i), .ref (a 3)]) S w (goodS lk_RX5_125 lt_X5_down ln_RX5 lc_X5_down) hd_X5_down (k_X5_down l _ _ (mW cI cO a s (va_up f 2 (pfx i (smF s f N) (f 2))) R) ((((Int32.toInt64 (s 3)) * (Int32.toInt64 ((f 1) (i - 1)))) + ((1000 - 2 * Int32.toInt64 (s 3)) * (Int32.toInt64 ((f 1) i)))) + ((Int32.toInt64 (s 3)) * (Int32.toInt64 ((f 1) (min (i + 1) (N - 1)))))) 1000 (by decide)) rfl ⟨(Nat.le_of_ble_eq_true rfl), (Nat.le_of_ble_eq_true rfl)⟩ ⟨rfl, rfl⟩ hl.1 rfl (Nat.le_of_ble_eq_true rfl) ⟨Nat.zero_le _, Nat.zero_le _⟩ dX5_smooth_97 (fun H locs (w : Wd D (kT cI cO) (va_A _ _) _ _ (mW cI cO a s (va_up f 2 (pfx i (smF s f N) (f 2))) R) H locs) => ?_)
          refine x_eql (x := o_X5_down ((((Int32.toInt64 (s 3)) * (Int32.toInt64 ((f 1) (i - 1)))) + ((1000 - 2 * Int32.toInt64 (s 3)) * (Int32.toInt64 ((f 1) i)))) + ((Int32.toInt64 (s 3)) * (Int32.toInt64 ((f 1) (min (i + 1) (N - 1)))))) 1000) (y := fdv ((((Int32.toInt64 (s 3)) * (Int32.toInt64 ((f 1) (i - 1)))) + ((1000 - 2 * Int32.toInt64 (s 3)) * (Int32.toInt64 ((f 1) i)))) + ((Int32.toInt64 (s 3)) * (Int32.toInt64 ((f 1) (min (i + 1) (N - 1)))))) 1000) (dn_eq _ _) ?_
          refine lv_l2i S.1 S.2.1 dX5_smooth_100 rfl ?_
          refine x_iast S w 3 0 (g := pfx i (smF s f N) (f 2)) i (by omega) (rfl) (Nat.le_of_ble_eq_true rfl) (mc_3) rfl (ms_2) dX5_smooth_101 (fun H locs (w : Wd D (kT cI cO) (va_A _ _) _ _ (mW cI cO a s (va_up (va_up f 2 (pfx i (smF s f N) (f 2))) 2 (upd (pfx i (smF s f N) (f 2)) i (Int64.toInt32 (fdv ((((Int32.toInt64 (s 3)) * (Int32.toInt64 ((f 1) (i - 1)))) + ((1000 - 2 * Int32.toInt64 (s 3)) * (Int32.toInt64 ((f 1) i)))) + ((Int32.toInt64 (s 3)) * (Int32.toInt64 ((f 1) (min (i + 1) (N - 1)))))) 1000)))) R) H locs) => ?_)
          have w := w.to (show mW cI cO a s (va_up (va_up f 2 (pfx i (smF s f N) (f 2))) 2 (upd (pfx i (smF s f N) (f 2)) i (Int64.toInt32 (fdv ((((Int32.toInt64 (s 3)) * (Int32.toInt64 ((f 1) (i - 1)))) + ((1000 - 2 * Int32.toInt64 (s 3)) * (Int32.toInt64 ((f 1) i)))) + ((Int32.toInt64 (s 3)) * (Int32.toInt64 ((f 1) (min (i + 1) (N - 1)))))) 1000)))) R = mW cI cO a s (va_up f 2 (pfx (i + 1) (smF s f N) (f 2))) R from m_f (va_step' rfl))
          refine lv_iinc (v := nI (i + 1)) (lv' := [(1, .int (nI (i + 1))), (4, .long (Int32.toInt64 ((f 1) (min (i + 1) (N - 1))))), (2, .long (Int32.toInt64 ((f 1) (i - 1)))), (0, .ref (a 0))]) S.1 S.2.1 dX5_smooth_102 hl (k := 3) rfl (x_inc _) (by decide) rfl (fun ls hl => ?_)
          refine lv_goto (tgt := 2) S.1 S.2.1 dX5_smooth_105 (by decide) ?_
          exact ih (i + 1) _ _ _ (by omega) (by omega) w (lv_sub hl [3, 0] rfl)
        · have hiN : i = N - 1 := (nI_eq (a := i) (b := N - 1) (by omega) (by omega)).mp c_4
          refine lv_iload_n S.1 S.2.1 dX5_smooth_42 rfl (lv_at hl 2 rfl) ?_
          refine x_eqi (x := nI i) (y := nI (min (i + 1) (N - 1))) (by rw [hiN]; congr 1; omega) ?_
          refine lv_goto (tgt := 49) S.1 S.2.1 dX5_smooth_43 (by decide) ?_
          refine x_iald S w 2 0 (g := f 1) (v := (f 1) (min (i + 1) (N - 1))) (min (i + 1) (N - 1)) (by omega) (rfl) (Nat.le_of_ble_eq_true rfl) (mc_2) rfl (rfl) dX5_smooth_49 ?_
          refine lv_i2l S.1 S.2.1 dX5_smooth_50 rfl ?_
          refine lv_lstore (lv' := [(4, .long (Int32.toInt64 ((f 1) (min (i + 1) (N - 1))))), (2, .long (Int32.toInt64 ((f 1) (i - 1)))), (0, .ref (a 0)), (1, .int (nI i))]) S.1 S.2.1 dX5_smooth_51 hl (by decide) rfl (fun ls hl => ?_)
          refine lv_aload_n S.1 S.2.1 dX5_smooth_53 rfl (lv_at hl 2 rfl) ?_
          refine mr_3 S w lk_RX5_22 dX5_smooth_54 ?_
          refine lv_iload_n S.1 S.2.1 dX5_smooth_57 rfl (lv_at hl 3 rfl) ?_
          refine lv_aload_n S.1 S.2.1 dX5_smooth_58 rfl (lv_at hl 2 rfl) ?_
          refine mg_3 S w lk_RX5_57 dX5_smooth_59 ?_
          refine lv_i2l S.1 S.2.1 dX5_smooth_62 rfl ?_
          refine lv_lload_n S.1 S.2.1 dX5_smooth_63 rfl (lv_at hl 1 rfl) ?_
          refine lv_lmul S.1 S.2.1 dX5_smooth_64 ?_
          refine lv_sipush (v := 1000) S.1 S.2.1 dX5_smooth_65 (by decide) ?_
          refine lv_iconst (v := 2) S.1 S.2.1 dX5_smooth_68 (by decide) ?_
          refine lv_aload_n S.1 S.2.1 dX5_smooth_69 rfl (lv_at hl 2 rfl) ?_
          refine mg_3 S w lk_RX5_57 dX5_smooth_70 ?_
          refine lv_imul S.1 S.2.1 dX5_smooth_73 ?_
          refine lv_isub S.1 S.2.1 dX5_smooth_74 ?_
          refine lv_i2l S.1 S.2.1 dX5_smooth_75 rfl ?_
          refine x_eql (x := Int32.toInt64 (1000 - (2 * (s 3)))) (y := 1000 - 2 * Int32.toInt64 (s 3)) (mid_eq hw hw3) ?_
          refine lv_aload_n S.1 S.2.1 dX5_smooth_76 rfl (lv_at hl 2 rfl) ?_
          refine mr_2 S w lk_RX5_13 dX5_smooth_77 ?_
          refine lv_iload_n S.1 S.2.1 dX5_smooth_80 rfl (lv_at hl 3 rfl) ?_
          refine x_iald S w 2 0 (g := f 1) (v := (f 1) i) i (by omega) (rfl) (Nat.le_of_ble_eq_true rfl) (mc_2) rfl (rfl) dX5_smooth_81 ?_
          refine lv_i2l S.1 S.2.1 dX5_smooth_82 rfl ?_
          refine lv_lmul S.1 S.2.1 dX5_smooth_83 ?_
          refine lv_ladd S.1 S.2.1 dX5_smooth_84 ?_
          refine lv_aload_n S.1 S.2.1 dX5_smooth_85 rfl (lv_at hl 2 rfl) ?_
          refine mg_3 S w lk_RX5_57 dX5_smooth_86 ?_
          refine lv_i2l S.1 S.2.1 dX5_smooth_89 rfl ?_
          refine lv_lload S.1 S.2.1 dX5_smooth_90 (lv_at hl 0 rfl) ?_
          refine lv_lmul S.1 S.2.1 dX5_smooth_92 ?_
          refine lv_ladd S.1 S.2.1 dX5_smooth_93 ?_
          refine x_ldc2 S lk_RX5_123 dX5_smooth_94 ?_
          refine x_Sl (As := [.long ((((Int32.toInt64 (s 3)) * (Int32.toInt64 ((f 1) (i - 1)))) + ((1000 - 2 * Int32.toInt64 (s 3)) * (Int32.toInt64 ((f 1) i)))) + ((Int32.toInt64 (s 3)) * (Int32.toInt64 ((f 1) (min (i + 1) (N - 1)))))), .long 1000]) (rest := [.int (nI i), .ref (a 3)]) S w (goodS lk_RX5_125 lt_X5_down ln_RX5 lc_X5_down) hd_X5_down (k_X5_down l _ _ (mW cI cO a s (va_up f 2 (pfx i (smF s f N) (f 2))) R) ((((Int32.toInt64 (s 3)) * (Int32.toInt64 ((f 1) (i - 1)))) + ((1000 - 2 * Int32.toInt64 (s 3)) * (Int32.toInt64 ((f 1) i)))) + ((Int32.toInt64 (s 3)) * (Int32.toInt64 ((f 1) (min (i + 1) (N - 1)))))) 1000 (by decide)) rfl ⟨(Nat.le_of_ble_eq_true rfl), (Nat.le_of_ble_eq_true rfl)⟩ ⟨rfl, rfl⟩ hl.1 rfl (Nat.le_of_ble_eq_true rfl) ⟨Nat.zero_le _, Nat.zero_le _⟩ dX5_smooth_97 (fun H locs (w : Wd D (kT cI cO) (va_A _ _) _ _ (mW cI cO a s (va_up f 2 (pfx i (smF s f N) (f 2))) R) H locs) => ?_)
          refine x_eql (x := o_X5_down ((((Int32.toInt64 (s 3)) * (Int32.toInt64 ((f 1) (i - 1)))) + ((1000 - 2 * Int32.toInt64 (s 3)) * (Int32.toInt64 ((f 1) i)))) + ((Int32.toInt64 (s 3)) * (Int32.toInt64 ((f 1) (min (i + 1) (N - 1)))))) 1000) (y := fdv ((((Int32.toInt64 (s 3)) * (Int32.toInt64 ((f 1) (i - 1)))) + ((1000 - 2 * Int32.toInt64 (s 3)) * (Int32.toInt64 ((f 1) i)))) + ((Int32.toInt64 (s 3)) * (Int32.toInt64 ((f 1) (min (i + 1) (N - 1)))))) 1000) (dn_eq _ _) ?_
          refine lv_l2i S.1 S.2.1 dX5_smooth_100 rfl ?_
          refine x_iast S w 3 0 (g := pfx i (smF s f N) (f 2)) i (by omega) (rfl) (Nat.le_of_ble_eq_true rfl) (mc_3) rfl (ms_2) dX5_smooth_101 (fun H locs (w : Wd D (kT cI cO) (va_A _ _) _ _ (mW cI cO a s (va_up (va_up f 2 (pfx i (smF s f N) (f 2))) 2 (upd (pfx i (smF s f N) (f 2)) i (Int64.toInt32 (fdv ((((Int32.toInt64 (s 3)) * (Int32.toInt64 ((f 1) (i - 1)))) + ((1000 - 2 * Int32.toInt64 (s 3)) * (Int32.toInt64 ((f 1) i)))) + ((Int32.toInt64 (s 3)) * (Int32.toInt64 ((f 1) (min (i + 1) (N - 1)))))) 1000)))) R) H locs) => ?_)
          have w := w.to (show mW cI cO a s (va_up (va_up f 2 (pfx i (smF s f N) (f 2))) 2 (upd (pfx i (smF s f N) (f 2)) i (Int64.toInt32 (fdv ((((Int32.toInt64 (s 3)) * (Int32.toInt64 ((f 1) (i - 1)))) + ((1000 - 2 * Int32.toInt64 (s 3)) * (Int32.toInt64 ((f 1) i)))) + ((Int32.toInt64 (s 3)) * (Int32.toInt64 ((f 1) (min (i + 1) (N - 1)))))) 1000)))) R = mW cI cO a s (va_up f 2 (pfx (i + 1) (smF s f N) (f 2))) R from m_f (va_step' rfl))
          refine lv_iinc (v := nI (i + 1)) (lv' := [(1, .int (nI (i + 1))), (4, .long (Int32.toInt64 ((f 1) (min (i + 1) (N - 1))))), (2, .long (Int32.toInt64 ((f 1) (i - 1)))), (0, .ref (a 0))]) S.1 S.2.1 dX5_smooth_102 hl (k := 3) rfl (x_inc _) (by decide) rfl (fun ls hl => ?_)
          refine lv_goto (tgt := 2) S.1 S.2.1 dX5_smooth_105 (by decide) ?_
          exact ih (i + 1) _ _ _ (by omega) (by omega) w (lv_sub hl [3, 0] rfl)
      · have hi0 : i = 0 := (nI_eq (a := i) (b := 0) (by omega) (by omega)).mp c_3
        refine lv_iconst (v := 0) S.1 S.2.1 dX5_smooth_18 (by decide) ?_
        refine x_eqi (x := 0) (y := nI (i - 1)) (by rw [hi0]; rfl) ?_
        refine lv_goto (tgt := 25) S.1 S.2.1 dX5_smooth_19 (by decide) ?_
        refine x_iald S w 2 0 (g := f 1) (v := (f 1) (i - 1)) (i - 1) (by omega) (rfl) (Nat.le_of_ble_eq_true rfl) (mc_2) rfl (rfl) dX5_smooth_25 ?_
        refine lv_i2l S.1 S.2.1 dX5_smooth_26 rfl ?_
        refine lv_lstore_n (lv' := [(2, .long (Int32.toInt64 ((f 1) (i - 1)))), (0, .ref (a 0)), (1, .int (nI i))]) S.1 S.2.1 dX5_smooth_27 rfl hl (by decide) rfl (fun ls hl => ?_)
        refine lv_aload_n S.1 S.2.1 dX5_smooth_28 rfl (lv_at hl 1 rfl) ?_
        refine mr_2 S w lk_RX5_13 dX5_smooth_29 ?_
        refine lv_iload_n S.1 S.2.1 dX5_smooth_32 rfl (lv_at hl 2 rfl) ?_
        refine lv_aload_n S.1 S.2.1 dX5_smooth_33 rfl (lv_at hl 1 rfl) ?_
        refine mg_0 S w lk_RX5_47 dX5_smooth_34 ?_
        refine x_eqi (x := s 0) (y := nI N) (hN) ?_
        refine lv_iconst (v := 1) S.1 S.2.1 dX5_smooth_37 (by decide) ?_
        refine lv_isub S.1 S.2.1 dX5_smooth_38 ?_
        refine x_eqi (x := (nI N) - 1) (y := nI (N - 1)) (pk_sub (b := 1) (by omega)) ?_
        refine lv_icmp_ne (tgt := 46) S.1 S.2.1 dX5_smooth_39 (by decide) (fun (c_5 : ¬ (nI i) = (nI (N - 1))) => ?_) (fun (c_5 : (nI i) = (nI (N - 1))) => ?_)
        · have hiN : i ≠ N - 1 := fun z => c_5 (by rw [z])
          refine lv_iload_n S.1 S.2.1 dX5_smooth_46 rfl (lv_at hl 2 rfl) ?_
          refine lv_iconst (v := 1) S.1 S.2.1 dX5_smooth_47 (by decide) ?_
          refine lv_iadd S.1 S.2.1 dX5_smooth_48 ?_
          refine x_eqi (x := (nI i) + 1) (y := nI (min (i + 1) (N - 1))) (by rw [nI_1]; congr 1; omega) ?_
          refine x_iald S w 2 0 (g := f 1) (v := (f 1) (min (i + 1) (N - 1))) (min (i + 1) (N - 1)) (by omega) (rfl) (Nat.le_of_ble_eq_true rfl) (mc_2) rfl (rfl) dX5_smooth_49 ?_
          refine lv_i2l S.1 S.2.1 dX5_smooth_50 rfl ?_
          refine lv_lstore (lv' := [(4, .long (Int32.toInt64 ((f 1) (min (i + 1) (N - 1))))), (2, .long (Int32.toInt64 ((f 1) (i - 1)))), (0, .ref (a 0)), (1, .int (nI i))]) S.1 S.2.1 dX5_smooth_51 hl (by decide) rfl (fun ls hl => ?_)
          refine lv_aload_n S.1 S.2.1 dX5_smooth_53 rfl (lv_at hl 2 rfl) ?_
          refine mr_3 S w lk_RX5_22 dX5_smooth_54 ?_
          refine lv_iload_n S.1 S.2.1 dX5_smooth_57 rfl (lv_at hl 3 rfl) ?_
          refine lv_aload_n S.1 S.2.1 dX5_smooth_58 rfl (lv_at hl 2 rfl) ?_
          refine mg_3 S w lk_RX5_57 dX5_smooth_59 ?_
          refine lv_i2l S.1 S.2.1 dX5_smooth_62 rfl ?_
          refine lv_lload_n S.1 S.2.1 dX5_smooth_63 rfl (lv_at hl 1 rfl) ?_
          refine lv_lmul S.1 S.2.1 dX5_smooth_64 ?_
          refine lv_sipush (v := 1000) S.1 S.2.1 dX5_smooth_65 (by decide) ?_
          refine lv_iconst (v := 2) S.1 S.2.1 dX5_smooth_68 (by decide) ?_
          refine lv_aload_n S.1 S.2.1 dX5_smooth_69 rfl (lv_at hl 2 rfl) ?_
          refine mg_3 S w lk_RX5_57 dX5_smooth_70 ?_
          refine lv_imul S.1 S.2.1 dX5_smooth_73 ?_
          refine lv_isub S.1 S.2.1 dX5_smooth_74 ?_
          refine lv_i2l S.1 S.2.1 dX5_smooth_75 rfl ?_
          refine x_eql (x := Int32.toInt64 (1000 - (2 * (s 3)))) (y := 1000 - 2 * Int32.toInt64 (s 3)) (mid_eq hw hw3) ?_
          refine lv_aload_n S.1 S.2.1 dX5_smooth_76 rfl (lv_at hl 2 rfl) ?_
          refine mr_2 S w lk_RX5_13 dX5_smooth_77 ?_
          refine lv_iload_n S.1 S.2.1 dX5_smooth_80 rfl (lv_at hl 3 rfl) ?_
          refine x_iald S w 2 0 (g := f 1) (v := (f 1) i) i (by omega) (rfl) (Nat.le_of_ble_eq_true rfl) (mc_2) rfl (rfl) dX5_smooth_81 ?_
          refine lv_i2l S.1 S.2.1 dX5_smooth_82 rfl ?_
          refine lv_lmul S.1 S.2.1 dX5_smooth_83 ?_
          refine lv_ladd S.1 S.2.1 dX5_smooth_84 ?_
          refine lv_aload_n S.1 S.2.1 dX5_smooth_85 rfl (lv_at hl 2 rfl) ?_
          refine mg_3 S w lk_RX5_57 dX5_smooth_86 ?_
          refine lv_i2l S.1 S.2.1 dX5_smooth_89 rfl ?_
          refine lv_lload S.1 S.2.1 dX5_smooth_90 (lv_at hl 0 rfl) ?_
          refine lv_lmul S.1 S.2.1 dX5_smooth_92 ?_
          refine lv_ladd S.1 S.2.1 dX5_smooth_93 ?_
          refine x_ldc2 S lk_RX5_123 dX5_smooth_94 ?_
          refine x_Sl (As := [.long ((((Int32.toInt64 (s 3)) * (Int32.toInt64 ((f 1) (i - 1)))) + ((1000 - 2 * Int32.toInt64 (s 3)) * (Int32.toInt64 ((f 1) i)))) + ((Int32.toInt64 (s 3)) * (Int32.toInt64 ((f 1) (min (i + 1) (N - 1)))))), .long 1000]) (rest := [.int (nI i), .ref (a 3)]) S w (goodS lk_RX5_125 lt_X5_down ln_RX5 lc_X5_down) hd_X5_down (k_X5_down l _ _ (mW cI cO a s (va_up f 2 (pfx i (smF s f N) (f 2))) R) ((((Int32.toInt64 (s 3)) * (Int32.toInt64 ((f 1) (i - 1)))) + ((1000 - 2 * Int32.toInt64 (s 3)) * (Int32.toInt64 ((f 1) i)))) + ((Int32.toInt64 (s 3)) * (Int32.toInt64 ((f 1) (min (i + 1) (N - 1)))))) 1000 (by decide)) rfl ⟨(Nat.le_of_ble_eq_true rfl), (Nat.le_of_ble_eq_true rfl)⟩ ⟨rfl, rfl⟩ hl.1 rfl (Nat.le_of_ble_eq_true rfl) ⟨Nat.zero_le _, Nat.zero_le _⟩ dX5_smooth_97 (fun H locs (w : Wd D (kT cI cO) (va_A _ _) _ _ (mW cI cO a s (va_up f 2 (pfx i (smF s f N) (f 2))) R) H locs) => ?_)
          refine x_eql (x := o_X5_down ((((Int32.toInt64 (s 3)) * (Int32.toInt64 ((f 1) (i - 1)))) + ((1000 - 2 * Int32.toInt64 (s 3)) * (Int32.toInt64 ((f 1) i)))) + ((Int32.toInt64 (s 3)) * (Int32.toInt64 ((f 1) (min (i + 1) (N - 1)))))) 1000) (y := fdv ((((Int32.toInt64 (s 3)) * (Int32.toInt64 ((f 1) (i - 1)))) + ((1000 - 2 * Int32.toInt64 (s 3)) * (Int32.toInt64 ((f 1) i)))) + ((Int32.toInt64 (s 3)) * (Int32.toInt64 ((f 1) (min (i + 1) (N - 1)))))) 1000) (dn_eq _ _) ?_
          refine lv_l2i S.1 S.2.1 dX5_smooth_100 rfl ?_
          refine x_iast S w 3 0 (g := pfx i (smF s f N) (f 2)) i (by omega) (rfl) (Nat.le_of_ble_eq_true rfl) (mc_3) rfl (ms_2) dX5_smooth_101 (fun H locs (w : Wd D (kT cI cO) (va_A _ _) _ _ (mW cI cO a s (va_up (va_up f 2 (pfx i (smF s f N) (f 2))) 2 (upd (pfx i (smF s f N) (f 2)) i (Int64.toInt32 (fdv ((((Int32.toInt64 (s 3)) * (Int32.toInt64 ((f 1) (i - 1)))) + ((1000 - 2 * Int32.toInt64 (s 3)) * (Int32.toInt64 ((f 1) i)))) + ((Int32.toInt64 (s 3)) * (Int32.toInt64 ((f 1) (min (i + 1) (N - 1)))))) 1000)))) R) H locs) => ?_)
          have w := w.to (show mW cI cO a s (va_up (va_up f 2 (pfx i (smF s f N) (f 2))) 2 (upd (pfx i (smF s f N) (f 2)) i (Int64.toInt32 (fdv ((((Int32.toInt64 (s 3)) * (Int32.toInt64 ((f 1) (i - 1)))) + ((1000 - 2 * Int32.toInt64 (s 3)) * (Int32.toInt64 ((f 1) i)))) + ((Int32.toInt64 (s 3)) * (Int32.toInt64 ((f 1) (min (i + 1) (N - 1)))))) 1000)))) R = mW cI cO a s (va_up f 2 (pfx (i + 1) (smF s f N) (f 2))) R from m_f (va_step' rfl))
          refine lv_iinc (v := nI (i + 1)) (lv' := [(1, .int (nI (i + 1))), (4, .long (Int32.toInt64 ((f 1) (min (i + 1) (N - 1))))), (2, .long (Int32.toInt64 ((f 1) (i - 1)))), (0, .ref (a 0))]) S.1 S.2.1 dX5_smooth_102 hl (k := 3) rfl (x_inc _) (by decide) rfl (fun ls hl => ?_)
          refine lv_goto (tgt := 2) S.1 S.2.1 dX5_smooth_105 (by decide) ?_
          exact ih (i + 1) _ _ _ (by omega) (by omega) w (lv_sub hl [3, 0] rfl)
        · have hiN : i = N - 1 := (nI_eq (a := i) (b := N - 1) (by omega) (by omega)).mp c_5
          refine lv_iload_n S.1 S.2.1 dX5_smooth_42 rfl (lv_at hl 2 rfl) ?_
          refine x_eqi (x := nI i) (y := nI (min (i + 1) (N - 1))) (by rw [hiN]; congr 1; omega) ?_
          refine lv_goto (tgt := 49) S.1 S.2.1 dX5_smooth_43 (by decide) ?_
          refine x_iald S w 2 0 (g := f 1) (v := (f 1) (min (i + 1) (N - 1))) (min (i + 1) (N - 1)) (by omega) (rfl) (Nat.le_of_ble_eq_true rfl) (mc_2) rfl (rfl) dX5_smooth_49 ?_
          refine lv_i2l S.1 S.2.1 dX5_smooth_50 rfl ?_
          refine lv_lstore (lv' := [(4, .long (Int32.toInt64 ((f 1) (min (i + 1) (N - 1))))), (2, .long (Int32.toInt64 ((f 1) (i - 1)))), (0, .ref (a 0)), (1, .int (nI i))]) S.1 S.2.1 dX5_smooth_51 hl (by decide) rfl (fun ls hl => ?_)
          refine lv_aload_n S.1 S.2.1 dX5_smooth_53 rfl (lv_at hl 2 rfl) ?_
          refine mr_3 S w lk_RX5_22 dX5_smooth_54 ?_
          refine lv_iload_n S.1 S.2.1 dX5_smooth_57 rfl (lv_at hl 3 rfl) ?_
          refine lv_aload_n S.1 S.2.1 dX5_smooth_58 rfl (lv_at hl 2 rfl) ?_
          refine mg_3 S w lk_RX5_57 dX5_smooth_59 ?_
          refine lv_i2l S.1 S.2.1 dX5_smooth_62 rfl ?_
          refine lv_lload_n S.1 S.2.1 dX5_smooth_63 rfl (lv_at hl 1 rfl) ?_
          refine lv_lmul S.1 S.2.1 dX5_smooth_64 ?_
          refine lv_sipush (v := 1000) S.1 S.2.1 dX5_smooth_65 (by decide) ?_
          refine lv_iconst (v := 2) S.1 S.2.1 dX5_smooth_68 (by decide) ?_
          refine lv_aload_n S.1 S.2.1 dX5_smooth_69 rfl (lv_at hl 2 rfl) ?_
          refine mg_3 S w lk_RX5_57 dX5_smooth_70 ?_
          refine lv_imul S.1 S.2.1 dX5_smooth_73 ?_
          refine lv_isub S.1 S.2.1 dX5_smooth_74 ?_
          refine lv_i2l S.1 S.2.1 dX5_smooth_75 rfl ?_
          refine x_eql (x := Int32.toInt64 (1000 - (2 * (s 3)))) (y := 1000 - 2 * Int32.toInt64 (s 3)) (mid_eq hw hw3) ?_
          refine lv_aload_n S.1 S.2.1 dX5_smooth_76 rfl (lv_at hl 2 rfl) ?_
          refine mr_2 S w lk_RX5_13 dX5_smooth_77 ?_
          refine lv_iload_n S.1 S.2.1 dX5_smooth_80 rfl (lv_at hl 3 rfl) ?_
          refine x_iald S w 2 0 (g := f 1) (v := (f 1) i) i (by omega) (rfl) (Nat.le_of_ble_eq_true rfl) (mc_2) rfl (rfl) dX5_smooth_81 ?_
          refine lv_i2l S.1 S.2.1 dX5_smooth_82 rfl ?_
          refine lv_lmul S.1 S.2.1 dX5_smooth_83 ?_
          refine lv_ladd S.1 S.2.1 dX5_smooth_84 ?_
          refine lv_aload_n S.1 S.2.1 dX5_smooth_85 rfl (lv_at hl 2 rfl) ?_
          refine mg_3 S w lk_RX5_57 dX5_smooth_86 ?_
          refine lv_i2l S.1 S.2.1 dX5_smooth_89 rfl ?_
          refine lv_lload S.1 S.2.1 dX5_smooth_90 (lv_at hl 0 rfl) ?_
          refine lv_lmul S.1 S.2.1 dX5_smooth_92 ?_
          refine lv_ladd S.1 S.2.1 dX5_smooth_93 ?_
          refine x_ldc2 S lk_RX5_123 dX5_smooth_94 ?_
          refine x_Sl (As := [.long ((((Int32.toInt64 (s 3)) * (Int32.toInt64 ((f 1) (i - 1)))) + ((1000 - 2 * Int32.toInt64 (s 3)) * (Int32.toInt64 ((f 1) i)))) + ((Int32.toInt64 (s 3)) * (Int32.toInt64 ((f 1) (min (i + 1) (N - 1)))))), .long 1000]) (rest := [.int (nI i), .ref (a 3)]) S w (goodS lk_RX5_125 lt_X5_down ln_RX5 lc_X5_down) hd_X5_down (k_X5_down l _ _ (mW cI cO a s (va_up f 2 (pfx i (smF s f N) (f 2))) R) ((((Int32.toInt64 (s 3)) * (Int32.toInt64 ((f 1) (i - 1)))) + ((1000 - 2 * Int32.toInt64 (s 3)) * (Int32.toInt64 ((f 1) i)))) + ((Int32.toInt64 (s 3)) * (Int32.toInt64 ((f 1) (min (i + 1) (N - 1)))))) 1000 (by decide)) rfl ⟨(Nat.le_of_ble_eq_true rfl), (Nat.le_of_ble_eq_true rfl)⟩ ⟨rfl, rfl⟩ hl.1 rfl (Nat.le_of_ble_eq_true rfl) ⟨Nat.zero_le _, Nat.zero_le _⟩ dX5_smooth_97 (fun H locs (w : Wd D (kT cI cO) (va_A _ _) _ _ (mW cI cO a s (va_up f 2 (pfx i (smF s f N) (f 2))) R) H locs) => ?_)
          refine x_eql (x := o_X5_down ((((Int32.toInt64 (s 3)) * (Int32.toInt64 ((f 1) (i - 1)))) + ((1000 - 2 * Int32.toInt64 (s 3)) * (Int32.toInt64 ((f 1) i)))) + ((Int32.toInt64 (s 3)) * (Int32.toInt64 ((f 1) (min (i + 1) (N - 1)))))) 1000) (y := fdv ((((Int32.toInt64 (s 3)) * (Int32.toInt64 ((f 1) (i - 1)))) + ((1000 - 2 * Int32.toInt64 (s 3)) * (Int32.toInt64 ((f 1) i)))) + ((Int32.toInt64 (s 3)) * (Int32.toInt64 ((f 1) (min (i + 1) (N - 1)))))) 1000) (dn_eq _ _) ?_
          refine lv_l2i S.1 S.2.1 dX5_smooth_100 rfl ?_
          refine x_iast S w 3 0 (g := pfx i (smF s f N) (f 2)) i (by omega) (rfl) (Nat.le_of_ble_eq_true rfl) (mc_3) rfl (ms_2) dX5_smooth_101 (fun H locs (w : Wd D (kT cI cO) (va_A _ _) _ _ (mW cI cO a s (va_up (va_up f 2 (pfx i (smF s f N) (f 2))) 2 (upd (pfx i (smF s f N) (f 2)) i (Int64.toInt32 (fdv ((((Int32.toInt64 (s 3)) * (Int32.toInt64 ((f 1) (i - 1)))) + ((1000 - 2 * Int32.toInt64 (s 3)) * (Int32.toInt64 ((f 1) i)))) + ((Int32.toInt64 (s 3)) * (Int32.toInt64 ((f 1) (min (i + 1) (N - 1)))))) 1000)))) R) H locs) => ?_)
          have w := w.to (show mW cI cO a s (va_up (va_up f 2 (pfx i (smF s f N) (f 2))) 2 (upd (pfx i (smF s f N) (f 2)) i (Int64.toInt32 (fdv ((((Int32.toInt64 (s 3)) * (Int32.toInt64 ((f 1) (i - 1)))) + ((1000 - 2 * Int32.toInt64 (s 3)) * (Int32.toInt64 ((f 1) i)))) + ((Int32.toInt64 (s 3)) * (Int32.toInt64 ((f 1) (min (i + 1) (N - 1)))))) 1000)))) R = mW cI cO a s (va_up f 2 (pfx (i + 1) (smF s f N) (f 2))) R from m_f (va_step' rfl))
          refine lv_iinc (v := nI (i + 1)) (lv' := [(1, .int (nI (i + 1))), (4, .long (Int32.toInt64 ((f 1) (min (i + 1) (N - 1))))), (2, .long (Int32.toInt64 ((f 1) (i - 1)))), (0, .ref (a 0))]) S.1 S.2.1 dX5_smooth_102 hl (k := 3) rfl (x_inc _) (by decide) rfl (fun ls hl => ?_)
          refine lv_goto (tgt := 2) S.1 S.2.1 dX5_smooth_105 (by decide) ?_
          exact ih (i + 1) _ _ _ (by omega) (by omega) w (lv_sub hl [3, 0] rfl)
def o_X5_smooth (s : Nat → Int32) (f : Nat → Nat → Int32) (N : Nat) : (Nat → Nat → Int32) := o_X5_smooth_2 s f N
set_option maxHeartbeats 4000000 in
set_option maxRecDepth 100000 in
theorem k_X5_smooth (l : Launch) (D : va_G) (cI cO : ClassId) (a : Nat → Nat) (R : va_W) (s : Nat → Int32) (f : Nat → Nat → Int32) (N : Nat) (wt : Nat) (hN : s 0 = nI N) (h4 : 4 ≤ N) (h48 : N ≤ 48) (hw : s 3 = nI wt) (hw3 : wt ≤ 333) : Mv l yX5_smooth cX5_smooth 6 none { frames := 1, cells := 0, slots := 0, locals := 25 } D (kT cI cO) (mW cI cO a s f R) [.ref (a 0)] (mW cI cO a s (o_X5_smooth s f N) R) := by
  intro sz
  refine ent (by decide +kernel) (Nat.le_of_ble_eq_true rfl) ?_
  intro p e st m below meth c ls S hr hlk hnm w hsz hl
  have hl : lv_has ls 6 [(0, .ref (a 0))] := hl
  refine lv_iconst (v := 0) S.1 S.2.1 dX5_smooth_0 (by decide) ?_
  refine lv_istore_n (lv' := [(1, .int 0), (0, .ref (a 0))]) S.1 S.2.1 dX5_smooth_1 rfl hl (by decide) rfl (fun ls hl => ?_)
  refine x_tov  (show mW cI cO a s (o_X5_smooth_2 s f N) R = mW cI cO a s (o_X5_smooth s f N) R from by simp only [o_X5_smooth]) ?_
  exact j_X5_smooth_2 l D cI cO a R s f N wt hN h4 h48 hw hw3 S hr hlk (N + 1) 0 _ _ _ (by omega) (by omega) (w.to (show mW cI cO a s f R = mW cI cO a s (va_up f 2 (pfx 0 (smF s f N) (f 2))) R from m_f va_first.symm)) (lv_sub hl [1, 0] rfl)
def o_X5_correct_119 (s : Nat → Int32) (f : Nat → Nat → Int32) (N : Nat) (kn : Nat) (d : Nat) (b : Nat) (mm : Nat) (fd : Int32) : (Nat → Nat → Int32) := va_up (itk (fun _ φ => o_X5_smooth s φ N) mm (va_up f 1 (pfx (kn - d) (corF s f kn 5 d b fd) (f 1)))) 1 (pfx N (limF s (itk (fun _ φ => o_X5_smooth s φ N) mm (va_up f 1 (pfx (kn - d) (corF s f kn 5 d b fd) (f 1))))) ((itk (fun _ φ => o_X5_smooth s φ N) mm (va_up f 1 (pfx (kn - d) (corF s f kn 5 d b fd) (f 1)))) 1))
set_option maxHeartbeats 4000000 in
set_option maxRecDepth 100000 in
theorem j_X5_correct_119 {p : Program} {e : Env} {st : State} {m : MethodId} {args : Array Value} {below : List Frame} {meth : Method} {c : Code} {ws0 : va_W} {sz : Nat} (l : Launch) (D : va_G) (cI cO : ClassId) (a : Nat → Nat) (R : va_W) (s : Nat → Int32) (f : Nat → Nat → Int32) (N : Nat) (kn : Nat) (d : Nat) (b : Nat) (mm : Nat) (wt : Nat) (L : Nat) (fd : Int32) (hN : s 0 = nI N) (h4 : 4 ≤ N) (h48 : N ≤ 48) (hd : s 2 = nI d) (hd8 : d ≤ 8) (hb : s 6 = nI b) (hb1 : 1 ≤ b) (hb10 : b ≤ 10) (hm : s 4 = nI mm) (hm4 : mm ≤ 4) (hw : s 3 = nI wt) (hw3 : wt ≤ 333) (hL : s 5 = nI L) (hL1 : 1 ≤ L) (hL6 : L ≤ 1000000) (hkn : kn ≤ N) (S : CallFix p m c cX5_correct 7 st args wsL_law RX5) (hr : meth.sig.returnType = none) (hlk : meth.locks = false) : ∀ (n : Nat) (i : Nat) (H : Heap) (locs : List Loc) (ls : Array Slot), N + 1 ≤ i + n → i ≤ N → Wd D (kT cI cO) (va_A ws0 sz) st.heap st (mW cI cO a s (va_up (itk (fun _ φ => o_X5_smooth s φ N) mm (va_up f 1 (pfx (kn - d) (corF s f kn 5 d b fd) (f 1)))) 1 (pfx i (limF s (itk (fun _ φ => o_X5_smooth s φ N) mm (va_up f 1 (pfx (kn - d) (corF s f kn 5 d b fd) (f 1))))) ((itk (fun _ φ => o_X5_smooth s φ N) mm (va_up f 1 (pfx (kn - d) (corF s f kn 5 d b fd) (f 1)))) 1))) R) H locs → lv_has ls 7 [(0, .ref (a 0)), (3, .int (nI i))] → W p l e { frames := 2, cells := 0, slots := 0, locals := 50 } st m args below meth c H locs 0 0 (MQ below (mQv D (kT cI cO) ws0 sz (mW cI cO a s (o_X5_correct_119 s f N kn d b mm fd) R)) args st 0 0 (va_A ws0 sz)) (F0 m 119 ls []) := by
  intro n
  induction n with
  | zero => intro i H locs ls hfu hi w hl; exact absurd hfu (by omega)
  | succ n ih =>
    intro i H locs ls hfu hi w hl
    refine lv_iload_n S.1 S.2.1 dX5_correct_119 rfl (lv_at hl 1 rfl) ?_
    refine lv_aload_n S.1 S.2.1 dX5_correct_120 rfl (lv_at hl 0 rfl) ?_
    refine mg_0 S w lk_RX5_47 dX5_correct_121 ?_
    refine x_eqi (x := s 0) (y := nI N) (hN) ?_
    refine lv_icmp_ge (tgt := 153) S.1 S.2.1 dX5_correct_124 (by decide) (fun (c_1 : (nI N) ≤ (nI i)) => ?_) (fun (c_1 : ¬ ((nI N) ≤ (nI i))) => ?_)
    · have he : i = N := by
        have := (nI_leI (a := N) (b := i) (by omega) (by omega)).mp c_1
        omega
      subst i
      exact x_retv S w hr hlk dX5_correct_153 (show mW cI cO a s (va_up (itk (fun _ φ => o_X5_smooth s φ N) mm (va_up f 1 (pfx (kn - d) (corF s f kn 5 d b fd) (f 1)))) 1 (pfx N (limF s (itk (fun _ φ => o_X5_smooth s φ N) mm (va_up f 1 (pfx (kn - d) (corF s f kn 5 d b fd) (f 1))))) ((itk (fun _ φ => o_X5_smooth s φ N) mm (va_up f 1 (pfx (kn - d) (corF s f kn 5 d b fd) (f 1)))) 1))) R = mW cI cO a s (o_X5_correct_119 s f N kn d b mm fd) R from by simp only [o_X5_correct_119])
    · have hlt : i < N := Nat.lt_of_not_le (fun z => c_1 (nI_le z (by omega)))
      refine lv_aload_n S.1 S.2.1 dX5_correct_127 rfl (lv_at hl 0 rfl) ?_
      refine mr_2 S w lk_RX5_13 dX5_correct_128 ?_
      refine lv_iload_n S.1 S.2.1 dX5_correct_131 rfl (lv_at hl 1 rfl) ?_
      refine lv_aload_n S.1 S.2.1 dX5_correct_132 rfl (lv_at hl 0 rfl) ?_
      refine mr_2 S w lk_RX5_13 dX5_correct_133 ?_
      refine lv_iload_n S.1 S.2.1 dX5_correct_136 rfl (lv_at hl 1 rfl) ?_
      refine x_iald S w 2 0 (g := pfx i (limF s (itk (fun _ φ => o_X5_smooth s φ N) mm (va_up f 1 (pfx (kn - d) (corF s f kn 5 d b fd) (f 1))))) ((itk (fun _ φ => o_X5_smooth s φ N) mm (va_up f 1 (pfx (kn - d) (corF s f kn 5 d b fd) (f 1)))) 1)) (v := (itk (fun _ φ => o_X5_smooth s φ N) mm (va_up f 1 (pfx (kn - d) (corF s f kn 5 d b fd) (f 1)))) 1 i) i (by omega) (rfl) (Nat.le_of_ble_eq_true rfl) (mc_2) rfl (pfx_ge _ _ (Nat.le_refl i)) dX5_correct_137 ?_
      refine lv_i2l S.1 S.2.1 dX5_correct_138 rfl ?_
      refine lv_aload_n S.1 S.2.1 dX5_correct_139 rfl (lv_at hl 0 rfl) ?_
      refine mg_5 S w lk_RX5_64 dX5_correct_140 ?_
      refine x_Si (As := [.long (Int32.toInt64 ((itk (fun _ φ => o_X5_smooth s φ N) mm (va_up f 1 (pfx (kn - d) (corF s f kn 5 d b fd) (f 1)))) 1 i)), .int (s 5)]) (rest := [.int (nI i), .ref (a 2)]) S w (goodS lk_RX5_132 lt_X5_kept ln_RX5 lc_X5_kept) hd_X5_kept (k_X5_kept l _ _ (mW cI cO a s (va_up (itk (fun _ φ => o_X5_smooth s φ N) mm (va_up f 1 (pfx (kn - d) (corF s f kn 5 d b fd) (f 1)))) 1 (pfx i (limF s (itk (fun _ φ => o_X5_smooth s φ N) mm (va_up f 1 (pfx (kn - d) (corF s f kn 5 d b fd) (f 1))))) ((itk (fun _ φ => o_X5_smooth s φ N) mm (va_up f 1 (pfx (kn - d) (corF s f kn 5 d b fd) (f 1)))) 1))) R) (Int32.toInt64 ((itk (fun _ φ => o_X5_smooth s φ N) mm (va_up f 1 (pfx (kn - d) (corF s f kn 5 d b fd) (f 1)))) 1 i)) (s 5)) rfl ⟨(Nat.le_of_ble_eq_true rfl), (Nat.le_of_ble_eq_true rfl)⟩ ⟨rfl, rfl⟩ hl.1 rfl (Nat.le_of_ble_eq_true rfl) ⟨Nat.zero_le _, Nat.zero_le _⟩ dX5_correct_143 (fun H locs (w : Wd D (kT cI cO) (va_A _ _) _ _ (mW cI cO a s (va_up (itk (fun _ φ => o_X5_smooth s φ N) mm (va_up f 1 (pfx (kn - d) (corF s f kn 5 d b fd) (f 1)))) 1 (pfx i (limF s (itk (fun _ φ => o_X5_smooth s φ N) mm (va_up f 1 (pfx (kn - d) (corF s f kn 5 d b fd) (f 1))))) ((itk (fun _ φ => o_X5_smooth s φ N) mm (va_up f 1 (pfx (kn - d) (corF s f kn 5 d b fd) (f 1)))) 1))) R) H locs) => ?_)
      refine x_eqi (x := o_X5_kept (Int32.toInt64 ((itk (fun _ φ => o_X5_smooth s φ N) mm (va_up f 1 (pfx (kn - d) (corF s f kn 5 d b fd) (f 1)))) 1 i)) (s 5)) (y := o_X4_limitTo (Int32.toInt64 ((itk (fun _ φ => o_X5_smooth s φ N) mm (va_up f 1 (pfx (kn - d) (corF s f kn 5 d b fd) (f 1)))) 1 i)) (s 5)) (by rw [hL]; exact kp_eq hL1 hL6) ?_
      refine x_iast S w 2 0 (g := pfx i (limF s (itk (fun _ φ => o_X5_smooth s φ N) mm (va_up f 1 (pfx (kn - d) (corF s f kn 5 d b fd) (f 1))))) ((itk (fun _ φ => o_X5_smooth s φ N) mm (va_up f 1 (pfx (kn - d) (corF s f kn 5 d b fd) (f 1)))) 1)) i (by omega) (rfl) (Nat.le_of_ble_eq_true rfl) (mc_2) rfl (ms_1) dX5_correct_146 (fun H locs (w : Wd D (kT cI cO) (va_A _ _) _ _ (mW cI cO a s (va_up (va_up (itk (fun _ φ => o_X5_smooth s φ N) mm (va_up f 1 (pfx (kn - d) (corF s f kn 5 d b fd) (f 1)))) 1 (pfx i (limF s (itk (fun _ φ => o_X5_smooth s φ N) mm (va_up f 1 (pfx (kn - d) (corF s f kn 5 d b fd) (f 1))))) ((itk (fun _ φ => o_X5_smooth s φ N) mm (va_up f 1 (pfx (kn - d) (corF s f kn 5 d b fd) (f 1)))) 1))) 1 (upd (pfx i (limF s (itk (fun _ φ => o_X5_smooth s φ N) mm (va_up f 1 (pfx (kn - d) (corF s f kn 5 d b fd) (f 1))))) ((itk (fun _ φ => o_X5_smooth s φ N) mm (va_up f 1 (pfx (kn - d) (corF s f kn 5 d b fd) (f 1)))) 1)) i (o_X4_limitTo (Int32.toInt64 ((itk (fun _ φ => o_X5_smooth s φ N) mm (va_up f 1 (pfx (kn - d) (corF s f kn 5 d b fd) (f 1)))) 1 i)) (s 5)))) R) H locs) => ?_)
      have w := w.to (show mW cI cO a s (va_up (va_up (itk (fun _ φ => o_X5_smooth s φ N) mm (va_up f 1 (pfx (kn - d) (corF s f kn 5 d b fd) (f 1)))) 1 (pfx i (limF s (itk (fun _ φ => o_X5_smooth s φ N) mm (va_up f 1 (pfx (kn - d) (corF s f kn 5 d b fd) (f 1))))) ((itk (fun _ φ => o_X5_smooth s φ N) mm (va_up f 1 (pfx (kn - d) (corF s f kn 5 d b fd) (f 1)))) 1))) 1 (upd (pfx i (limF s (itk (fun _ φ => o_X5_smooth s φ N) mm (va_up f 1 (pfx (kn - d) (corF s f kn 5 d b fd) (f 1))))) ((itk (fun _ φ => o_X5_smooth s φ N) mm (va_up f 1 (pfx (kn - d) (corF s f kn 5 d b fd) (f 1)))) 1)) i (o_X4_limitTo (Int32.toInt64 ((itk (fun _ φ => o_X5_smooth s φ N) mm (va_up f 1 (pfx (kn - d) (corF s f kn 5 d b fd) (f 1)))) 1 i)) (s 5)))) R = mW cI cO a s (va_up (itk (fun _ φ => o_X5_smooth s φ N) mm (va_up f 1 (pfx (kn - d) (corF s f kn 5 d b fd) (f 1)))) 1 (pfx (i + 1) (limF s (itk (fun _ φ => o_X5_smooth s φ N) mm (va_up f 1 (pfx (kn - d) (corF s f kn 5 d b fd) (f 1))))) ((itk (fun _ φ => o_X5_smooth s φ N) mm (va_up f 1 (pfx (kn - d) (corF s f kn 5 d b fd) (f 1)))) 1))) R from m_f (va_step' rfl))
      refine lv_iinc (v := nI (i + 1)) (lv' := [(3, .int (nI (i + 1))), (0, .ref (a 0))]) S.1 S.2.1 dX5_correct_147 hl (k := 1) rfl (x_inc _) (by decide) rfl (fun ls hl => ?_)
      refine lv_goto (tgt := 119) S.1 S.2.1 dX5_correct_150 (by decide) ?_
      exact ih (i + 1) _ _ _ (by omega) (by omega) w (lv_sub hl [1, 0] rfl)
def o_X5_correct_99 (s : Nat → Int32) (f : Nat → Nat → Int32) (N : Nat) (kn : Nat) (d : Nat) (b : Nat) (mm : Nat) (fd : Int32) : (Nat → Nat → Int32) := o_X5_correct_119 s f N kn d b mm fd
set_option maxHeartbeats 4000000 in
set_option maxRecDepth 100000 in
theorem j_X5_correct_99 {p : Program} {e : Env} {st : State} {m : MethodId} {args : Array Value} {below : List Frame} {meth : Method} {c : Code} {ws0 : va_W} {sz : Nat} (l : Launch) (D : va_G) (cI cO : ClassId) (a : Nat → Nat) (R : va_W) (s : Nat → Int32) (f : Nat → Nat → Int32) (N : Nat) (kn : Nat) (d : Nat) (b : Nat) (mm : Nat) (wt : Nat) (L : Nat) (fd : Int32) (hN : s 0 = nI N) (h4 : 4 ≤ N) (h48 : N ≤ 48) (hd : s 2 = nI d) (hd8 : d ≤ 8) (hb : s 6 = nI b) (hb1 : 1 ≤ b) (hb10 : b ≤ 10) (hm : s 4 = nI mm) (hm4 : mm ≤ 4) (hw : s 3 = nI wt) (hw3 : wt ≤ 333) (hL : s 5 = nI L) (hL1 : 1 ≤ L) (hL6 : L ≤ 1000000) (hkn : kn ≤ N) (S : CallFix p m c cX5_correct 7 st args wsL_law RX5) (hr : meth.sig.returnType = none) (hlk : meth.locks = false) : ∀ (n : Nat) (i : Nat) (H : Heap) (locs : List Loc) (ls : Array Slot), mm + 1 ≤ i + n → i ≤ mm → Wd D (kT cI cO) (va_A ws0 sz) st.heap st (mW cI cO a s (itk (fun _ φ => o_X5_smooth s φ N) i (va_up f 1 (pfx (kn - d) (corF s f kn 5 d b fd) (f 1)))) R) H locs → lv_has ls 7 [(0, .ref (a 0)), (3, .int (nI i))] → W p l e { frames := 2, cells := 0, slots := 0, locals := 50 } st m args below meth c H locs 0 0 (MQ below (mQv D (kT cI cO) ws0 sz (mW cI cO a s (o_X5_correct_99 s f N kn d b mm fd) R)) args st 0 0 (va_A ws0 sz)) (F0 m 99 ls []) := by
  intro n
  induction n with
  | zero => intro i H locs ls hfu hi w hl; exact absurd hfu (by omega)
  | succ n ih =>
    intro i H locs ls hfu hi w hl
    refine lv_iload_n S.1 S.2.1 dX5_correct_99 rfl (lv_at hl 1 rfl) ?_
    refine lv_aload_n S.1 S.2.1 dX5_correct_100 rfl (lv_at hl 0 rfl) ?_
    refine mg_4 S w lk_RX5_60 dX5_correct_101 ?_
    refine x_eqi (x := s 4) (y := nI mm) (hm) ?_
    refine lv_icmp_ge (tgt := 117) S.1 S.2.1 dX5_correct_104 (by decide) (fun (c_2 : (nI mm) ≤ (nI i)) => ?_) (fun (c_2 : ¬ ((nI mm) ≤ (nI i))) => ?_)
    · have he : i = mm := by
        have := (nI_leI (a := mm) (b := i) (by omega) (by omega)).mp c_2
        omega
      subst i
      refine lv_iconst (v := 0) S.1 S.2.1 dX5_correct_117 (by decide) ?_
      refine lv_istore_n (lv' := [(3, .int 0), (0, .ref (a 0))]) S.1 S.2.1 dX5_correct_118 rfl hl (by decide) rfl (fun ls hl => ?_)
      refine x_tov  (show mW cI cO a s (o_X5_correct_119 s f N kn d b mm fd) R = mW cI cO a s (o_X5_correct_99 s f N kn d b mm fd) R from by simp only [o_X5_correct_99]) ?_
      exact j_X5_correct_119 l D cI cO a R s f N kn d b mm wt L fd hN h4 h48 hd hd8 hb hb1 hb10 hm hm4 hw hw3 hL hL1 hL6 hkn S hr hlk (N + 1) 0 _ _ _ (by omega) (by omega) (w.to (show mW cI cO a s (itk (fun _ φ => o_X5_smooth s φ N) mm (va_up f 1 (pfx (kn - d) (corF s f kn 5 d b fd) (f 1)))) R = mW cI cO a s (va_up (itk (fun _ φ => o_X5_smooth s φ N) mm (va_up f 1 (pfx (kn - d) (corF s f kn 5 d b fd) (f 1)))) 1 (pfx 0 (limF s (itk (fun _ φ => o_X5_smooth s φ N) mm (va_up f 1 (pfx (kn - d) (corF s f kn 5 d b fd) (f 1))))) ((itk (fun _ φ => o_X5_smooth s φ N) mm (va_up f 1 (pfx (kn - d) (corF s f kn 5 d b fd) (f 1)))) 1))) R from m_f va_first.symm)) (lv_sub hl [1, 0] rfl)
    · have hlt : i < mm := Nat.lt_of_not_le (fun z => c_2 (nI_le z (by omega)))
      refine lv_aload_n S.1 S.2.1 dX5_correct_107 rfl (lv_at hl 0 rfl) ?_
      refine x_Vv (As := []) (rest := []) S w (goodV lk_RX5_129 li_X5_smooth ls_X5_smooth ln_RX5 lc_X5_smooth) hV_X5_smooth (k_X5_smooth l D cI cO a R s (itk (fun _ φ => o_X5_smooth s φ N) i (va_up f 1 (pfx (kn - d) (corF s f kn 5 d b fd) (f 1)))) N wt hN h4 h48 hw hw3) rfl 0 5 rfl rfl mc_0 ⟨(Nat.le_of_ble_eq_true rfl), (Nat.le_of_ble_eq_true rfl)⟩ ⟨rfl, rfl⟩ hl.1 rfl (Nat.le_of_ble_eq_true rfl) ⟨Nat.zero_le _, Nat.zero_le _⟩ dX5_correct_108 (fun H locs (w : Wd D (kT cI cO) (va_A _ _) _ _ (mW cI cO a s (o_X5_smooth s (itk (fun _ φ => o_X5_smooth s φ N) i (va_up f 1 (pfx (kn - d) (corF s f kn 5 d b fd) (f 1)))) N) R) H locs) => ?_)
      refine lv_iinc (v := nI (i + 1)) (lv' := [(3, .int (nI (i + 1))), (0, .ref (a 0))]) S.1 S.2.1 dX5_correct_111 hl (k := 1) rfl (x_inc _) (by decide) rfl (fun ls hl => ?_)
      refine lv_goto (tgt := 99) S.1 S.2.1 dX5_correct_114 (by decide) ?_
      exact ih (i + 1) _ _ _ (by omega) (by omega) (w.to (show mW cI cO a s (o_X5_smooth s (itk (fun _ φ => o_X5_smooth s φ N) i (va_up f 1 (pfx (kn - d) (corF s f kn 5 d b fd) (f 1)))) N) R = mW cI cO a s (itk (fun _ φ => o_X5_smooth s φ N) (i + 1) (va_up f 1 (pfx (kn - d) (corF s f kn 5 d b fd) (f 1)))) R from rfl)) (lv_sub hl [1, 0] rfl)
def o_X5_correct_2 (s : Nat → Int32) (f : Nat → Nat → Int32) (N : Nat) (kn : Nat) (d : Nat) (b : Nat) (mm : Nat) (fd : Int32) : (Nat → Nat → Int32) := o_X5_correct_99 s f N kn d b mm fd
set_option maxHeartbeats 4000000 in
set_option maxRecDepth 100000 in
theorem j_X5_correct_2 {p : Program} {e : Env} {st : State} {m : MethodId} {args : Array Value} {below : List Frame} {meth : Method} {c : Code} {ws0 : va_W} {sz : Nat} (l : Launch) (D : va_G) (cI cO : ClassId) (a : Nat → Nat) (R : va_W) (s : Nat → Int32) (f : Nat → Nat → Int32) (N : Nat) (kn : Nat) (d : Nat) (b : Nat) (mm : Nat) (wt : Nat) (L : Nat) (fd : Int32) (hN : s 0 = nI N) (h4 : 4 ≤ N) (h48 : N ≤ 48) (hd : s 2 = nI d) (hd8 : d ≤ 8) (hb : s 6 = nI b) (hb1 : 1 ≤ b) (hb10 : b ≤ 10) (hm : s 4 = nI mm) (hm4 : mm ≤ 4) (hw : s 3 = nI wt) (hw3 : wt ≤ 333) (hL : s 5 = nI L) (hL1 : 1 ≤ L) (hL6 : L ≤ 1000000) (hkn : kn ≤ N) (S : CallFix p m c cX5_correct 7 st args wsL_law RX5) (hr : meth.sig.returnType = none) (hlk : meth.locks = false) : ∀ (n : Nat) (i : Nat) (H : Heap) (locs : List Loc) (ls : Array Slot), kn - d + 1 ≤ i + n → i ≤ kn - d → Wd D (kT cI cO) (va_A ws0 sz) st.heap st (mW cI cO a s (va_up f 1 (pfx i (corF s f kn 5 d b fd) (f 1))) R) H locs → lv_has ls 7 [(0, .ref (a 0)), (1, .int (nI kn)), (2, .int fd), (3, .int (nI i))] → W p l e { frames := 2, cells := 0, slots := 0, locals := 50 } st m args below meth c H locs 0 0 (MQ below (mQv D (kT cI cO) ws0 sz (mW cI cO a s (o_X5_correct_2 s f N kn d b mm fd) R)) args st 0 0 (va_A ws0 sz)) (F0 m 2 ls []) := by
  intro n
  induction n with
  | zero => intro i H locs ls hfu hi w hl; exact absurd hfu (by omega)
  | succ n ih =>
    intro i H locs ls hfu hi w hl
    refine lv_iload_n S.1 S.2.1 dX5_correct_2 rfl (lv_at hl 3 rfl) ?_
    refine lv_aload_n S.1 S.2.1 dX5_correct_3 rfl (lv_at hl 0 rfl) ?_
    refine mg_2 S w lk_RX5_54 dX5_correct_4 ?_
    refine x_eqi (x := s 2) (y := nI d) (hd) ?_
    refine lv_iadd S.1 S.2.1 dX5_correct_7 ?_
    refine x_eqi (x := (nI i) + (nI d)) (y := nI (i + d)) (nI_add i d) ?_
    refine lv_iload_n S.1 S.2.1 dX5_correct_8 rfl (lv_at hl 1 rfl) ?_
    refine lv_icmp_ge (tgt := 97) S.1 S.2.1 dX5_correct_9 (by decide) (fun (c_3 : (nI kn) ≤ (nI (i + d))) => ?_) (fun (c_3 : ¬ ((nI kn) ≤ (nI (i + d)))) => ?_)
    · have he : i = kn - d := by
        have := (nI_leI (a := kn) (b := i + d) (by omega) (by omega)).mp c_3
        omega
      subst i
      refine lv_iconst (v := 0) S.1 S.2.1 dX5_correct_97 (by decide) ?_
      refine lv_istore_n (lv' := [(3, .int 0), (0, .ref (a 0)), (1, .int (nI kn)), (2, .int fd)]) S.1 S.2.1 dX5_correct_98 rfl hl (by decide) rfl (fun ls hl => ?_)
      refine x_tov  (show mW cI cO a s (o_X5_correct_99 s f N kn d b mm fd) R = mW cI cO a s (o_X5_correct_2 s f N kn d b mm fd) R from by simp only [o_X5_correct_2]) ?_
      exact j_X5_correct_99 l D cI cO a R s f N kn d b mm wt L fd hN h4 h48 hd hd8 hb hb1 hb10 hm hm4 hw hw3 hL hL1 hL6 hkn S hr hlk (mm + 1) 0 _ _ _ (by omega) (by omega) (w.to (show mW cI cO a s (va_up f 1 (pfx (kn - d) (corF s f kn 5 d b fd) (f 1))) R = mW cI cO a s (itk (fun _ φ => o_X5_smooth s φ N) 0 (va_up f 1 (pfx (kn - d) (corF s f kn 5 d b fd) (f 1)))) R from rfl)) (lv_sub hl [1, 0] rfl)
    · have hlt : i + d < kn := Nat.lt_of_not_le (fun z => c_3 (nI_le z (by omega)))
      refine lv_iload_n S.1 S.2.1 dX5_correct_12 rfl (lv_at hl 1 rfl) ?_
      refine lv_iload_n S.1 S.2.1 dX5_correct_13 rfl (lv_at hl 3 rfl) ?_
      refine lv_isub S.1 S.2.1 dX5_correct_14 ?_
      refine x_eqi (x := (nI kn) - (nI i)) (y := nI (kn - i)) (pk_sub (by omega)) ?_
      refine lv_aload_n S.1 S.2.1 dX5_correct_15 rfl (lv_at hl 0 rfl) ?_
      refine mg_2 S w lk_RX5_54 dX5_correct_16 ?_
      refine x_eqi (x := s 2) (y := nI d) (hd) ?_
      refine lv_isub S.1 S.2.1 dX5_correct_19 ?_
      refine x_eqi (x := (nI (kn - i)) - (nI d)) (y := nI (kn - i - d)) (pk_sub (by omega)) ?_
      refine lv_istore (lv' := [(4, .int (nI (kn - i - d))), (0, .ref (a 0)), (1, .int (nI kn)), (2, .int fd), (3, .int (nI i))]) S.1 S.2.1 dX5_correct_20 hl (by decide) rfl (fun ls hl => ?_)
      refine lv_iload_n S.1 S.2.1 dX5_correct_22 rfl (lv_at hl 3 rfl) ?_
      refine lv_if_eq (tgt := 41) S.1 S.2.1 dX5_correct_23 (by decide) (fun (c_4 : fd = 0) => ?_) (fun (c_4 : ¬ (fd = 0)) => ?_)
      · refine lv_aload_n S.1 S.2.1 dX5_correct_41 rfl (lv_at hl 1 rfl) ?_
        refine mg_6 S w lk_RX5_67 dX5_correct_42 ?_
        refine x_eqi (x := s 6) (y := nI b) (hb) ?_
        refine lv_i2l S.1 S.2.1 dX5_correct_45 rfl ?_
        refine x_eql (x := Int32.toInt64 (nI b)) (y := Int32.toInt64 (cwt fd b (kn - (i + d)))) (by rw [cwt, if_pos c_4]) ?_
        refine lv_lstore (lv' := [(5, .long (Int32.toInt64 (cwt fd b (kn - (i + d))))), (4, .int (nI (kn - i - d))), (0, .ref (a 0)), (1, .int (nI kn)), (2, .int fd), (3, .int (nI i))]) S.1 S.2.1 dX5_correct_46 hl (by decide) rfl (fun ls hl => ?_)
        refine lv_aload_n S.1 S.2.1 dX5_correct_48 rfl (lv_at hl 2 rfl) ?_
        refine mr_2 S w lk_RX5_13 dX5_correct_49 ?_
        refine lv_iload_n S.1 S.2.1 dX5_correct_52 rfl (lv_at hl 5 rfl) ?_
        refine lv_dup2_11 S.1 S.2.1 dX5_correct_53 rfl rfl ?_
        refine x_iald S w 2 0 (g := pfx i (corF s f kn 5 d b fd) (f 1)) (v := f 1 i) i (by omega) (rfl) (Nat.le_of_ble_eq_true rfl) (mc_2) rfl (pfx_ge _ _ (Nat.le_refl i)) dX5_correct_54 ?_
        refine lv_aload_n S.1 S.2.1 dX5_correct_55 rfl (lv_at hl 2 rfl) ?_
        refine mg_1 S w lk_RX5_51 dX5_correct_56 ?_
        refine lv_i2l S.1 S.2.1 dX5_correct_59 rfl ?_
        refine lv_aload_n S.1 S.2.1 dX5_correct_60 rfl (lv_at hl 2 rfl) ?_
        refine mr_6 S w lk_RX5_19 dX5_correct_61 ?_
        refine lv_iload_n S.1 S.2.1 dX5_correct_64 rfl (lv_at hl 5 rfl) ?_
        refine lv_aload_n S.1 S.2.1 dX5_correct_65 rfl (lv_at hl 2 rfl) ?_
        refine mg_2 S w lk_RX5_54 dX5_correct_66 ?_
        refine x_eqi (x := s 2) (y := nI d) (hd) ?_
        refine lv_iadd S.1 S.2.1 dX5_correct_69 ?_
        refine x_eqi (x := (nI i) + (nI d)) (y := nI (i + d)) (nI_add i d) ?_
        refine x_iald S w 6 0 (g := f 5) (v := (f 5) (i + d)) (i + d) (by omega) (rfl) (Nat.le_of_ble_eq_true rfl) (mc_6) rfl (rfl) dX5_correct_70 ?_
        refine lv_i2l S.1 S.2.1 dX5_correct_71 rfl ?_
        refine lv_lmul S.1 S.2.1 dX5_correct_72 ?_
        refine lv_lload S.1 S.2.1 dX5_correct_73 (lv_at hl 0 rfl) ?_
        refine lv_lmul S.1 S.2.1 dX5_correct_75 ?_
        refine x_ldc2 S lk_RX5_123 dX5_correct_76 ?_
        refine lv_aload_n S.1 S.2.1 dX5_correct_79 rfl (lv_at hl 2 rfl) ?_
        refine mg_6 S w lk_RX5_67 dX5_correct_80 ?_
        refine x_eqi (x := s 6) (y := nI b) (hb) ?_
        refine lv_i2l S.1 S.2.1 dX5_correct_83 rfl ?_
        refine lv_lmul S.1 S.2.1 dX5_correct_84 ?_
        refine x_Sl (As := [.long (((Int32.toInt64 (s 1)) * (Int32.toInt64 ((f 5) (i + d)))) * (Int32.toInt64 (cwt fd b (kn - (i + d))))), .long (1000 * (Int32.toInt64 (nI b)))]) (rest := [.int (f 1 i), .int (nI i), .ref (a 2)]) S w (goodS lk_RX5_125 lt_X5_down ln_RX5 lc_X5_down) hd_X5_down (k_X5_down l _ _ (mW cI cO a s (va_up f 1 (pfx i (corF s f kn 5 d b fd) (f 1))) R) (((Int32.toInt64 (s 1)) * (Int32.toInt64 ((f 5) (i + d)))) * (Int32.toInt64 (cwt fd b (kn - (i + d))))) (1000 * (Int32.toInt64 (nI b))) (dv_ne hb1 hb10)) rfl ⟨(Nat.le_of_ble_eq_true rfl), (Nat.le_of_ble_eq_true rfl)⟩ ⟨rfl, rfl⟩ hl.1 rfl (Nat.le_of_ble_eq_true rfl) ⟨Nat.zero_le _, Nat.zero_le _⟩ dX5_correct_85 (fun H locs (w : Wd D (kT cI cO) (va_A _ _) _ _ (mW cI cO a s (va_up f 1 (pfx i (corF s f kn 5 d b fd) (f 1))) R) H locs) => ?_)
        refine x_eql (x := o_X5_down (((Int32.toInt64 (s 1)) * (Int32.toInt64 ((f 5) (i + d)))) * (Int32.toInt64 (cwt fd b (kn - (i + d))))) (1000 * (Int32.toInt64 (nI b)))) (y := fdv (((Int32.toInt64 (s 1)) * (Int32.toInt64 ((f 5) (i + d)))) * (Int32.toInt64 (cwt fd b (kn - (i + d))))) (1000 * (Int32.toInt64 (nI b)))) (dn_eq _ _) ?_
        refine lv_l2i S.1 S.2.1 dX5_correct_88 rfl ?_
        refine lv_iadd S.1 S.2.1 dX5_correct_89 ?_
        refine x_iast S w 2 0 (g := pfx i (corF s f kn 5 d b fd) (f 1)) i (by omega) (rfl) (Nat.le_of_ble_eq_true rfl) (mc_2) rfl (ms_1) dX5_correct_90 (fun H locs (w : Wd D (kT cI cO) (va_A _ _) _ _ (mW cI cO a s (va_up (va_up f 1 (pfx i (corF s f kn 5 d b fd) (f 1))) 1 (upd (pfx i (corF s f kn 5 d b fd) (f 1)) i ((f 1 i) + (Int64.toInt32 (fdv (((Int32.toInt64 (s 1)) * (Int32.toInt64 ((f 5) (i + d)))) * (Int32.toInt64 (cwt fd b (kn - (i + d))))) (1000 * (Int32.toInt64 (nI b)))))))) R) H locs) => ?_)
        have w := w.to (show mW cI cO a s (va_up (va_up f 1 (pfx i (corF s f kn 5 d b fd) (f 1))) 1 (upd (pfx i (corF s f kn 5 d b fd) (f 1)) i ((f 1 i) + (Int64.toInt32 (fdv (((Int32.toInt64 (s 1)) * (Int32.toInt64 ((f 5) (i + d)))) * (Int32.toInt64 (cwt fd b (kn - (i + d))))) (1000 * (Int32.toInt64 (nI b)))))))) R = mW cI cO a s (va_up f 1 (pfx (i + 1) (corF s f kn 5 d b fd) (f 1))) R from m_f (va_step' rfl))
        refine lv_iinc (v := nI (i + 1)) (lv' := [(3, .int (nI (i + 1))), (5, .long (Int32.toInt64 (cwt fd b (kn - (i + d))))), (4, .int (nI (kn - i - d))), (0, .ref (a 0)), (1, .int (nI kn)), (2, .int fd)]) S.1 S.2.1 dX5_correct_91 hl (k := 5) rfl (x_inc _) (by decide) rfl (fun ls hl => ?_)
        refine lv_goto (tgt := 2) S.1 S.2.1 dX5_correct_94 (by decide) ?_
        exact ih (i + 1) _ _ _ (by omega) (by omega) w (lv_sub hl [3, 4, 5, 0] rfl)
      · refine lv_iload S.1 S.2.1 dX5_correct_26 (lv_at hl 0 rfl) ?_
        refine lv_aload_n S.1 S.2.1 dX5_correct_28 rfl (lv_at hl 1 rfl) ?_
        refine mg_6 S w lk_RX5_67 dX5_correct_29 ?_
        refine x_eqi (x := s 6) (y := nI b) (hb) ?_
        refine lv_icmp_ge (tgt := 41) S.1 S.2.1 dX5_correct_32 (by decide) (fun (c_5 : (nI b) ≤ (nI (kn - i - d))) => ?_) (fun (c_5 : ¬ ((nI b) ≤ (nI (kn - i - d)))) => ?_)
        · refine lv_aload_n S.1 S.2.1 dX5_correct_41 rfl (lv_at hl 1 rfl) ?_
          refine mg_6 S w lk_RX5_67 dX5_correct_42 ?_
          refine x_eqi (x := s 6) (y := nI b) (hb) ?_
          refine lv_i2l S.1 S.2.1 dX5_correct_45 rfl ?_
          refine x_eql (x := Int32.toInt64 (nI b)) (y := Int32.toInt64 (cwt fd b (kn - (i + d)))) (by rw [cwt, if_neg c_4]; congr 2; have := (nI_leI (a := b) (b := kn - i - d) (by omega) (by omega)).mp c_5; omega) ?_
          refine lv_lstore (lv' := [(5, .long (Int32.toInt64 (cwt fd b (kn - (i + d))))), (4, .int (nI (kn - i - d))), (0, .ref (a 0)), (1, .int (nI kn)), (2, .int fd), (3, .int (nI i))]) S.1 S.2.1 dX5_correct_46 hl (by decide) rfl (fun ls hl => ?_)
          refine lv_aload_n S.1 S.2.1 dX5_correct_48 rfl (lv_at hl 2 rfl) ?_
          refine mr_2 S w lk_RX5_13 dX5_correct_49 ?_
          refine lv_iload_n S.1 S.2.1 dX5_correct_52 rfl (lv_at hl 5 rfl) ?_
          refine lv_dup2_11 S.1 S.2.1 dX5_correct_53 rfl rfl ?_
          refine x_iald S w 2 0 (g := pfx i (corF s f kn 5 d b fd) (f 1)) (v := f 1 i) i (by omega) (rfl) (Nat.le_of_ble_eq_true rfl) (mc_2) rfl (pfx_ge _ _ (Nat.le_refl i)) dX5_correct_54 ?_
          refine lv_aload_n S.1 S.2.1 dX5_correct_55 rfl (lv_at hl 2 rfl) ?_
          refine mg_1 S w lk_RX5_51 dX5_correct_56 ?_
          refine lv_i2l S.1 S.2.1 dX5_correct_59 rfl ?_
          refine lv_aload_n S.1 S.2.1 dX5_correct_60 rfl (lv_at hl 2 rfl) ?_
          refine mr_6 S w lk_RX5_19 dX5_correct_61 ?_
          refine lv_iload_n S.1 S.2.1 dX5_correct_64 rfl (lv_at hl 5 rfl) ?_
          refine lv_aload_n S.1 S.2.1 dX5_correct_65 rfl (lv_at hl 2 rfl) ?_
          refine mg_2 S w lk_RX5_54 dX5_correct_66 ?_
          refine x_eqi (x := s 2) (y := nI d) (hd) ?_
          refine lv_iadd S.1 S.2.1 dX5_correct_69 ?_
          refine x_eqi (x := (nI i) + (nI d)) (y := nI (i + d)) (nI_add i d) ?_
          refine x_iald S w 6 0 (g := f 5) (v := (f 5) (i + d)) (i + d) (by omega) (rfl) (Nat.le_of_ble_eq_true rfl) (mc_6) rfl (rfl) dX5_correct_70 ?_
          refine lv_i2l S.1 S.2.1 dX5_correct_71 rfl ?_
          refine lv_lmul S.1 S.2.1 dX5_correct_72 ?_
          refine lv_lload S.1 S.2.1 dX5_correct_73 (lv_at hl 0 rfl) ?_
          refine lv_lmul S.1 S.2.1 dX5_correct_75 ?_
          refine x_ldc2 S lk_RX5_123 dX5_correct_76 ?_
          refine lv_aload_n S.1 S.2.1 dX5_correct_79 rfl (lv_at hl 2 rfl) ?_
          refine mg_6 S w lk_RX5_67 dX5_correct_80 ?_
          refine x_eqi (x := s 6) (y := nI b) (hb) ?_
          refine lv_i2l S.1 S.2.1 dX5_correct_83 rfl ?_
          refine lv_lmul S.1 S.2.1 dX5_correct_84 ?_
          refine x_Sl (As := [.long (((Int32.toInt64 (s 1)) * (Int32.toInt64 ((f 5) (i + d)))) * (Int32.toInt64 (cwt fd b (kn - (i + d))))), .long (1000 * (Int32.toInt64 (nI b)))]) (rest := [.int (f 1 i), .int (nI i), .ref (a 2)]) S w (goodS lk_RX5_125 lt_X5_down ln_RX5 lc_X5_down) hd_X5_down (k_X5_down l _ _ (mW cI cO a s (va_up f 1 (pfx i (corF s f kn 5 d b fd) (f 1))) R) (((Int32.toInt64 (s 1)) * (Int32.toInt64 ((f 5) (i + d)))) * (Int32.toInt64 (cwt fd b (kn - (i + d))))) (1000 * (Int32.toInt64 (nI b))) (dv_ne hb1 hb10)) rfl ⟨(Nat.le_of_ble_eq_true rfl), (Nat.le_of_ble_eq_true rfl)⟩ ⟨rfl, rfl⟩ hl.1 rfl (Nat.le_of_ble_eq_true rfl) ⟨Nat.zero_le _, Nat.zero_le _⟩ dX5_correct_85 (fun H locs (w : Wd D (kT cI cO) (va_A _ _) _ _ (mW cI cO a s (va_up f 1 (pfx i (corF s f kn 5 d b fd) (f 1))) R) H locs) => ?_)
          refine x_eql (x := o_X5_down (((Int32.toInt64 (s 1)) * (Int32.toInt64 ((f 5) (i + d)))) * (Int32.toInt64 (cwt fd b (kn - (i + d))))) (1000 * (Int32.toInt64 (nI b)))) (y := fdv (((Int32.toInt64 (s 1)) * (Int32.toInt64 ((f 5) (i + d)))) * (Int32.toInt64 (cwt fd b (kn - (i + d))))) (1000 * (Int32.toInt64 (nI b)))) (dn_eq _ _) ?_
          refine lv_l2i S.1 S.2.1 dX5_correct_88 rfl ?_
          refine lv_iadd S.1 S.2.1 dX5_correct_89 ?_
          refine x_iast S w 2 0 (g := pfx i (corF s f kn 5 d b fd) (f 1)) i (by omega) (rfl) (Nat.le_of_ble_eq_true rfl) (mc_2) rfl (ms_1) dX5_correct_90 (fun H locs (w : Wd D (kT cI cO) (va_A _ _) _ _ (mW cI cO a s (va_up (va_up f 1 (pfx i (corF s f kn 5 d b fd) (f 1))) 1 (upd (pfx i (corF s f kn 5 d b fd) (f 1)) i ((f 1 i) + (Int64.toInt32 (fdv (((Int32.toInt64 (s 1)) * (Int32.toInt64 ((f 5) (i + d)))) * (Int32.toInt64 (cwt fd b (kn - (i + d))))) (1000 * (Int32.toInt64 (nI b)))))))) R) H locs) => ?_)
          have w := w.to (show mW cI cO a s (va_up (va_up f 1 (pfx i (corF s f kn 5 d b fd) (f 1))) 1 (upd (pfx i (corF s f kn 5 d b fd) (f 1)) i ((f 1 i) + (Int64.toInt32 (fdv (((Int32.toInt64 (s 1)) * (Int32.toInt64 ((f 5) (i + d)))) * (Int32.toInt64 (cwt fd b (kn - (i + d))))) (1000 * (Int32.toInt64 (nI b)))))))) R = mW cI cO a s (va_up f 1 (pfx (i + 1) (corF s f kn 5 d b fd) (f 1))) R from m_f (va_step' rfl))
          refine lv_iinc (v := nI (i + 1)) (lv' := [(3, .int (nI (i + 1))), (5, .long (Int32.toInt64 (cwt fd b (kn - (i + d))))), (4, .int (nI (kn - i - d))), (0, .ref (a 0)), (1, .int (nI kn)), (2, .int fd)]) S.1 S.2.1 dX5_correct_91 hl (k := 5) rfl (x_inc _) (by decide) rfl (fun ls hl => ?_)
          refine lv_goto (tgt := 2) S.1 S.2.1 dX5_correct_94 (by decide) ?_
          exact ih (i + 1) _ _ _ (by omega) (by omega) w (lv_sub hl [3, 4, 5, 0] rfl)
        · refine lv_iload S.1 S.2.1 dX5_correct_35 (lv_at hl 0 rfl) ?_
          refine lv_i2l S.1 S.2.1 dX5_correct_37 rfl ?_
          refine x_eql (x := Int32.toInt64 (nI (kn - i - d))) (y := Int32.toInt64 (cwt fd b (kn - (i + d)))) (by rw [cwt, if_neg c_4]; congr 2; have := (nI_leI (a := b) (b := kn - i - d) (by omega) (by omega)); have h9 : kn - i - d < b := Nat.lt_of_not_le (fun z => c_5 (this.mpr z)); omega) ?_
          refine lv_goto (tgt := 46) S.1 S.2.1 dX5_correct_38 (by decide) ?_
          refine lv_lstore (lv' := [(5, .long (Int32.toInt64 (cwt fd b (kn - (i + d))))), (4, .int (nI (kn - i - d))), (0, .ref (a 0)), (1, .int (nI kn)), (2, .int fd), (3, .int (nI i))]) S.1 S.2.1 dX5_correct_46 hl (by decide) rfl (fun ls hl => ?_)
          refine lv_aload_n S.1 S.2.1 dX5_correct_48 rfl (lv_at hl 2 rfl) ?_
          refine mr_2 S w lk_RX5_13 dX5_correct_49 ?_
          refine lv_iload_n S.1 S.2.1 dX5_correct_52 rfl (lv_at hl 5 rfl) ?_
          refine lv_dup2_11 S.1 S.2.1 dX5_correct_53 rfl rfl ?_
          refine x_iald S w 2 0 (g := pfx i (corF s f kn 5 d b fd) (f 1)) (v := f 1 i) i (by omega) (rfl) (Nat.le_of_ble_eq_true rfl) (mc_2) rfl (pfx_ge _ _ (Nat.le_refl i)) dX5_correct_54 ?_
          refine lv_aload_n S.1 S.2.1 dX5_correct_55 rfl (lv_at hl 2 rfl) ?_
          refine mg_1 S w lk_RX5_51 dX5_correct_56 ?_
          refine lv_i2l S.1 S.2.1 dX5_correct_59 rfl ?_
          refine lv_aload_n S.1 S.2.1 dX5_correct_60 rfl (lv_at hl 2 rfl) ?_
          refine mr_6 S w lk_RX5_19 dX5_correct_61 ?_
          refine lv_iload_n S.1 S.2.1 dX5_correct_64 rfl (lv_at hl 5 rfl) ?_
          refine lv_aload_n S.1 S.2.1 dX5_correct_65 rfl (lv_at hl 2 rfl) ?_
          refine mg_2 S w lk_RX5_54 dX5_correct_66 ?_
          refine x_eqi (x := s 2) (y := nI d) (hd) ?_
          refine lv_iadd S.1 S.2.1 dX5_correct_69 ?_
          refine x_eqi (x := (nI i) + (nI d)) (y := nI (i + d)) (nI_add i d) ?_
          refine x_iald S w 6 0 (g := f 5) (v := (f 5) (i + d)) (i + d) (by omega) (rfl) (Nat.le_of_ble_eq_true rfl) (mc_6) rfl (rfl) dX5_correct_70 ?_
          refine lv_i2l S.1 S.2.1 dX5_correct_71 rfl ?_
          refine lv_lmul S.1 S.2.1 dX5_correct_72 ?_
          refine lv_lload S.1 S.2.1 dX5_correct_73 (lv_at hl 0 rfl) ?_
          refine lv_lmul S.1 S.2.1 dX5_correct_75 ?_
          refine x_ldc2 S lk_RX5_123 dX5_correct_76 ?_
          refine lv_aload_n S.1 S.2.1 dX5_correct_79 rfl (lv_at hl 2 rfl) ?_
          refine mg_6 S w lk_RX5_67 dX5_correct_80 ?_
          refine x_eqi (x := s 6) (y := nI b) (hb) ?_
          refine lv_i2l S.1 S.2.1 dX5_correct_83 rfl ?_
          refine lv_lmul S.1 S.2.1 dX5_correct_84 ?_
          refine x_Sl (As := [.long (((Int32.toInt64 (s 1)) * (Int32.toInt64 ((f 5) (i + d)))) * (Int32.toInt64 (cwt fd b (kn - (i + d))))), .long (1000 * (Int32.toInt64 (nI b)))]) (rest := [.int (f 1 i), .int (nI i), .ref (a 2)]) S w (goodS lk_RX5_125 lt_X5_down ln_RX5 lc_X5_down) hd_X5_down (k_X5_down l _ _ (mW cI cO a s (va_up f 1 (pfx i (corF s f kn 5 d b fd) (f 1))) R) (((Int32.toInt64 (s 1)) * (Int32.toInt64 ((f 5) (i + d)))) * (Int32.toInt64 (cwt fd b (kn - (i + d))))) (1000 * (Int32.toInt64 (nI b))) (dv_ne hb1 hb10)) rfl ⟨(Nat.le_of_ble_eq_true rfl), (Nat.le_of_ble_eq_true rfl)⟩ ⟨rfl, rfl⟩ hl.1 rfl (Nat.le_of_ble_eq_true rfl) ⟨Nat.zero_le _, Nat.zero_le _⟩ dX5_correct_85 (fun H locs (w : Wd D (kT cI cO) (va_A _ _) _ _ (mW cI cO a s (va_up f 1 (pfx i (corF s f kn 5 d b fd) (f 1))) R) H locs) => ?_)
          refine x_eql (x := o_X5_down (((Int32.toInt64 (s 1)) * (Int32.toInt64 ((f 5) (i + d)))) * (Int32.toInt64 (cwt fd b (kn - (i + d))))) (1000 * (Int32.toInt64 (nI b)))) (y := fdv (((Int32.toInt64 (s 1)) * (Int32.toInt64 ((f 5) (i + d)))) * (Int32.toInt64 (cwt fd b (kn - (i + d))))) (1000 * (Int32.toInt64 (nI b)))) (dn_eq _ _) ?_
          refine lv_l2i S.1 S.2.1 dX5_correct_88 rfl ?_
          refine lv_iadd S.1 S.2.1 dX5_correct_89 ?_
          refine x_iast S w 2 0 (g := pfx i (corF s f kn 5 d b fd) (f 1)) i (by omega) (rfl) (Nat.le_of_ble_eq_true rfl) (mc_2) rfl (ms_1) dX5_correct_90 (fun H locs (w : Wd D (kT cI cO) (va_A _ _) _ _ (mW cI cO a s (va_up (va_up f 1 (pfx i (corF s f kn 5 d b fd) (f 1))) 1 (upd (pfx i (corF s f kn 5 d b fd) (f 1)) i ((f 1 i) + (Int64.toInt32 (fdv (((Int32.toInt64 (s 1)) * (Int32.toInt64 ((f 5) (i + d)))) * (Int32.toInt64 (cwt fd b (kn - (i + d))))) (1000 * (Int32.toInt64 (nI b)))))))) R) H locs) => ?_)
          have w := w.to (show mW cI cO a s (va_up (va_up f 1 (pfx i (corF s f kn 5 d b fd) (f 1))) 1 (upd (pfx i (corF s f kn 5 d b fd) (f 1)) i ((f 1 i) + (Int64.toInt32 (fdv (((Int32.toInt64 (s 1)) * (Int32.toInt64 ((f 5) (i + d)))) * (Int32.toInt64 (cwt fd b (kn - (i + d))))) (1000 * (Int32.toInt64 (nI b)))))))) R = mW cI cO a s (va_up f 1 (pfx (i + 1) (corF s f kn 5 d b fd) (f 1))) R from m_f (va_step' rfl))
          refine lv_iinc (v := nI (i + 1)) (lv' := [(3, .int (nI (i + 1))), (5, .long (Int32.toInt64 (cwt fd b (kn - (i + d))))), (4, .int (nI (kn - i - d))), (0, .ref (a 0)), (1, .int (nI kn)), (2, .int fd)]) S.1 S.2.1 dX5_correct_91 hl (k := 5) rfl (x_inc _) (by decide) rfl (fun ls hl => ?_)
          refine lv_goto (tgt := 2) S.1 S.2.1 dX5_correct_94 (by decide) ?_
          exact ih (i + 1) _ _ _ (by omega) (by omega) w (lv_sub hl [3, 4, 5, 0] rfl)
def o_X5_correct (s : Nat → Int32) (f : Nat → Nat → Int32) (N : Nat) (kn : Nat) (d : Nat) (b : Nat) (mm : Nat) (fd : Int32) : (Nat → Nat → Int32) := o_X5_correct_2 s f N kn d b mm fd
set_option maxHeartbeats 4000000 in
set_option maxRecDepth 100000 in
theorem k_X5_correct (l : Launch) (D : va_G) (cI cO : ClassId) (a : Nat → Nat) (R : va_W) (s : Nat → Int32) (f : Nat → Nat → Int32) (N : Nat) (kn : Nat) (d : Nat) (b : Nat) (mm : Nat) (wt : Nat) (L : Nat) (fd : Int32) (hN : s 0 = nI N) (h4 : 4 ≤ N) (h48 : N ≤ 48) (hd : s 2 = nI d) (hd8 : d ≤ 8) (hb : s 6 = nI b) (hb1 : 1 ≤ b) (hb10 : b ≤ 10) (hm : s 4 = nI mm) (hm4 : mm ≤ 4) (hw : s 3 = nI wt) (hw3 : wt ≤ 333) (hL : s 5 = nI L) (hL1 : 1 ≤ L) (hL6 : L ≤ 1000000) (hkn : kn ≤ N) : Mv l yX5_correct cX5_correct 7 none { frames := 2, cells := 0, slots := 0, locals := 50 } D (kT cI cO) (mW cI cO a s f R) [.ref (a 0), .int (nI kn), .int fd] (mW cI cO a s (o_X5_correct s f N kn d b mm fd) R) := by
  intro sz
  refine ent (by decide +kernel) (Nat.le_of_ble_eq_true rfl) ?_
  intro p e st m below meth c ls S hr hlk hnm w hsz hl
  have hl : lv_has ls 7 [(0, .ref (a 0)), (1, .int (nI kn)), (2, .int fd)] := hl
  refine lv_iconst (v := 0) S.1 S.2.1 dX5_correct_0 (by decide) ?_
  refine lv_istore_n (lv' := [(3, .int 0), (0, .ref (a 0)), (1, .int (nI kn)), (2, .int fd)]) S.1 S.2.1 dX5_correct_1 rfl hl (by decide) rfl (fun ls hl => ?_)
  refine x_tov  (show mW cI cO a s (o_X5_correct_2 s f N kn d b mm fd) R = mW cI cO a s (o_X5_correct s f N kn d b mm fd) R from by simp only [o_X5_correct]) ?_
  exact j_X5_correct_2 l D cI cO a R s f N kn d b mm wt L fd hN h4 h48 hd hd8 hb hb1 hb10 hm hm4 hw hw3 hL hL1 hL6 hkn S hr hlk (kn - d + 1) 0 _ _ _ (by omega) (by omega) (w.to (show mW cI cO a s f R = mW cI cO a s (va_up f 1 (pfx 0 (corF s f kn 5 d b fd) (f 1))) R from m_f va_first.symm)) (lv_sub hl [1, 2, 3, 0] rfl)
def o_X5_rawAt (s : Nat → Int32) (f : Nat → Nat → Int32) (N : Nat) (k : Int32) : Int32 := f 3 (rix N k)
set_option maxHeartbeats 4000000 in
set_option maxRecDepth 100000 in
theorem k_X5_rawAt (l : Launch) (D : va_G) (cI cO : ClassId) (a : Nat → Nat) (R : va_W) (s : Nat → Int32) (f : Nat → Nat → Int32) (N : Nat) (k : Int32) (hN : s 0 = nI N) (h4 : 4 ≤ N) (h48 : N ≤ 48) : Mi l yX5_rawAt cX5_rawAt 2 (some .int) { frames := 0, cells := 0, slots := 0, locals := 0 } D (kT cI cO) (mW cI cO a s f R) [.ref (a 0), .int k] (mW cI cO a s f R) (o_X5_rawAt s f N k) := by
  intro sz
  refine ent (by decide +kernel) (Nat.le_of_ble_eq_true rfl) ?_
  intro p e st m below meth c ls S hr hlk hnm w hsz hl
  have hl : lv_has ls 2 [(0, .ref (a 0)), (1, .int k)] := hl
  refine lv_aload_n S.1 S.2.1 dX5_rawAt_0 rfl (lv_at hl 0 rfl) ?_
  refine mr_4 S w lk_RX5_16 dX5_rawAt_1 ?_
  refine lv_iload_n S.1 S.2.1 dX5_rawAt_4 rfl (lv_at hl 1 rfl) ?_
  refine lv_if_ge (tgt := 12) S.1 S.2.1 dX5_rawAt_5 (by decide) (fun (c_1 : 0 ≤ k) => ?_) (fun (c_1 : ¬ (0 ≤ k)) => ?_)
  · refine lv_iload_n S.1 S.2.1 dX5_rawAt_12 rfl (lv_at hl 1 rfl) ?_
    refine lv_aload_n S.1 S.2.1 dX5_rawAt_13 rfl (lv_at hl 0 rfl) ?_
    refine mg_0 S w lk_RX5_47 dX5_rawAt_14 ?_
    refine x_eqi (x := s 0) (y := nI N) (hN) ?_
    refine lv_icmp_lt (tgt := 29) S.1 S.2.1 dX5_rawAt_17 (by decide) (fun (c_2 : k < (nI N)) => ?_) (fun (c_2 : ¬ (k < (nI N))) => ?_)
    · refine lv_iload_n S.1 S.2.1 dX5_rawAt_29 rfl (lv_at hl 1 rfl) ?_
      have hr1 := rix_lt (k := k) h4 h48
      have hr0 : rix N k = Int32.toNatClampNeg k := by rw [rix, if_neg (Int32.not_lt.mpr c_1), if_neg (Int32.not_le.mpr c_2)]
      refine x_iald S w 4 0 (g := f 3) (v := f 3 (rix N k)) (Int32.toNatClampNeg k) (by omega) (by obtain ⟨j, hj, rfl⟩ := nI_of (Int32.not_lt.mpr c_1); rw [nI_clamp hj]) (Nat.le_of_ble_eq_true rfl) (mc_4) rfl (by rw [hr0]) dX5_rawAt_30 ?_
      exact x_reti S w hr hlk dX5_rawAt_31 (show f 3 (rix N k) = o_X5_rawAt s f N k from by simp only [o_X5_rawAt]) (show mW cI cO a s f R = mW cI cO a s f R from rfl)
    · refine lv_aload_n S.1 S.2.1 dX5_rawAt_20 rfl (lv_at hl 0 rfl) ?_
      refine mg_0 S w lk_RX5_47 dX5_rawAt_21 ?_
      refine x_eqi (x := s 0) (y := nI N) (hN) ?_
      refine lv_iconst (v := 1) S.1 S.2.1 dX5_rawAt_24 (by decide) ?_
      refine lv_isub S.1 S.2.1 dX5_rawAt_25 ?_
      refine x_eqi (x := (nI N) - 1) (y := nI (N - 1)) (pk_sub (b := 1) (by omega)) ?_
      refine lv_goto (tgt := 30) S.1 S.2.1 dX5_rawAt_26 (by decide) ?_
      have hr0 : rix N k = N - 1 := by rw [rix, if_neg (Int32.not_lt.mpr c_1), if_pos (Int32.not_lt.mp c_2)]
      refine x_iald S w 4 0 (g := f 3) (v := f 3 (rix N k)) (N - 1) (by omega) (rfl) (Nat.le_of_ble_eq_true rfl) (mc_4) rfl (by rw [hr0]) dX5_rawAt_30 ?_
      exact x_reti S w hr hlk dX5_rawAt_31 (show f 3 (rix N k) = o_X5_rawAt s f N k from by simp only [o_X5_rawAt]) (show mW cI cO a s f R = mW cI cO a s f R from rfl)
  · refine lv_iconst (v := 0) S.1 S.2.1 dX5_rawAt_8 (by decide) ?_
    refine lv_goto (tgt := 30) S.1 S.2.1 dX5_rawAt_9 (by decide) ?_
    have hr0 : rix N k = 0 := by rw [rix, if_pos (Int32.not_le.mp c_1)]
    refine x_iald S w 4 0 (g := f 3) (v := f 3 (rix N k)) 0 (by decide) (rfl) (Nat.le_of_ble_eq_true rfl) (mc_4) rfl (by rw [hr0]) dX5_rawAt_30 ?_
    exact x_reti S w hr hlk dX5_rawAt_31 (show f 3 (rix N k) = o_X5_rawAt s f N k from by simp only [o_X5_rawAt]) (show mW cI cO a s f R = mW cI cO a s f R from rfl)
def o_X5_unlike_5 (s : Nat → Int32) (f : Nat → Nat → Int32) (N : Nat) (v : Int32) : Int64 := sumL (fun y => Int32.toInt64 (iabs (f 3 (rix N (nI y + v)) - f 4 y))) N
set_option maxHeartbeats 4000000 in
set_option maxRecDepth 100000 in
theorem j_X5_unlike_5 {p : Program} {e : Env} {st : State} {m : MethodId} {args : Array Value} {below : List Frame} {meth : Method} {c : Code} {ws0 : va_W} {sz : Nat} (l : Launch) (D : va_G) (cI cO : ClassId) (a : Nat → Nat) (R : va_W) (s : Nat → Int32) (f : Nat → Nat → Int32) (N : Nat) (v : Int32) (hN : s 0 = nI N) (h4 : 4 ≤ N) (h48 : N ≤ 48) (S : CallFix p m c cX5_unlike 5 st args wsL_law RX5) (hr : meth.sig.returnType = (some .long)) (hlk : meth.locks = false) : ∀ (n : Nat) (i : Nat) (H : Heap) (locs : List Loc) (ls : Array Slot), N + 1 ≤ i + n → i ≤ N → Wd D (kT cI cO) (va_A ws0 sz) st.heap st (mW cI cO a s f R) H locs → lv_has ls 5 [(0, .ref (a 0)), (1, .int v), (2, .long (sumL (fun y => Int32.toInt64 (iabs (f 3 (rix N (nI y + v)) - f 4 y))) i)), (4, .int (nI i))] → W p l e { frames := 1, cells := 0, slots := 0, locals := 21 } st m args below meth c H locs 0 0 (MQ below (mQl D (kT cI cO) ws0 sz (mW cI cO a s f R) (o_X5_unlike_5 s f N v)) args st 0 0 (va_A ws0 sz)) (F0 m 5 ls []) := by
  intro n
  induction n with
  | zero => intro i H locs ls hfu hi w hl; exact absurd hfu (by omega)
  | succ n ih =>
    intro i H locs ls hfu hi w hl
    refine lv_iload S.1 S.2.1 dX5_unlike_5 (lv_at hl 3 rfl) ?_
    refine lv_aload_n S.1 S.2.1 dX5_unlike_7 rfl (lv_at hl 0 rfl) ?_
    refine mg_0 S w lk_RX5_47 dX5_unlike_8 ?_
    refine x_eqi (x := s 0) (y := nI N) (hN) ?_
    refine lv_icmp_ge (tgt := 43) S.1 S.2.1 dX5_unlike_11 (by decide) (fun (c_1 : (nI N) ≤ (nI i)) => ?_) (fun (c_1 : ¬ ((nI N) ≤ (nI i))) => ?_)
    · have he : i = N := by
        have := (nI_leI (a := N) (b := i) (by omega) (by omega)).mp c_1
        omega
      subst i
      refine lv_lload_n S.1 S.2.1 dX5_unlike_43 rfl (lv_at hl 2 rfl) ?_
      exact x_retl S w hr hlk dX5_unlike_44 (show sumL (fun y => Int32.toInt64 (iabs (f 3 (rix N (nI y + v)) - f 4 y))) N = o_X5_unlike_5 s f N v from by simp only [o_X5_unlike_5]) (show mW cI cO a s f R = mW cI cO a s f R from rfl)
    · have hlt : i < N := Nat.lt_of_not_le (fun z => c_1 (nI_le z (by omega)))
      refine lv_lload_n S.1 S.2.1 dX5_unlike_14 rfl (lv_at hl 2 rfl) ?_
      refine lv_aload_n S.1 S.2.1 dX5_unlike_15 rfl (lv_at hl 0 rfl) ?_
      refine lv_iload S.1 S.2.1 dX5_unlike_16 (lv_at hl 3 rfl) ?_
      refine lv_iload_n S.1 S.2.1 dX5_unlike_18 rfl (lv_at hl 1 rfl) ?_
      refine lv_iadd S.1 S.2.1 dX5_unlike_19 ?_
      refine x_Vi (As := [.int ((nI i) + v)]) (rest := [.long (sumL (fun y => Int32.toInt64 (iabs (f 3 (rix N (nI y + v)) - f 4 y))) i)]) S w (goodV lk_RX5_136 li_X5_rawAt ls_X5_rawAt ln_RX5 lc_X5_rawAt) hV_X5_rawAt (k_X5_rawAt l D cI cO a R s f N ((nI i) + v) hN h4 h48) rfl 0 5 rfl rfl mc_0 ⟨(Nat.le_of_ble_eq_true rfl), (Nat.le_of_ble_eq_true rfl)⟩ ⟨rfl, rfl⟩ hl.1 rfl (Nat.le_of_ble_eq_true rfl) ⟨Nat.zero_le _, Nat.zero_le _⟩ dX5_unlike_20 (fun H locs (w : Wd D (kT cI cO) (va_A _ _) _ _ (mW cI cO a s f R) H locs) => ?_)
      refine x_eqi (x := o_X5_rawAt s f N ((nI i) + v)) (y := f 3 (rix N ((nI i) + v))) rfl ?_
      refine lv_aload_n S.1 S.2.1 dX5_unlike_23 rfl (lv_at hl 0 rfl) ?_
      refine mr_5 S w lk_RX5_34 dX5_unlike_24 ?_
      refine lv_iload S.1 S.2.1 dX5_unlike_27 (lv_at hl 3 rfl) ?_
      refine x_iald S w 5 0 (g := f 4) (v := (f 4) i) i (by omega) (rfl) (Nat.le_of_ble_eq_true rfl) (mc_5) rfl (rfl) dX5_unlike_29 ?_
      refine lv_isub S.1 S.2.1 dX5_unlike_30 ?_
      refine x_Si (As := [.int ((f 3 (rix N ((nI i) + v))) - ((f 4) i))]) (rest := [.long (sumL (fun y => Int32.toInt64 (iabs (f 3 (rix N (nI y + v)) - f 4 y))) i)]) S w (goodS lk_RX5_140 lt_X5_size ln_RX5 lc_X5_size) hd_X5_size (k_X5_size l _ _ (mW cI cO a s f R) ((f 3 (rix N ((nI i) + v))) - ((f 4) i))) rfl ⟨(Nat.le_of_ble_eq_true rfl), (Nat.le_of_ble_eq_true rfl)⟩ ⟨rfl, rfl⟩ hl.1 rfl (Nat.le_of_ble_eq_true rfl) ⟨Nat.zero_le _, Nat.zero_le _⟩ dX5_unlike_31 (fun H locs (w : Wd D (kT cI cO) (va_A _ _) _ _ (mW cI cO a s f R) H locs) => ?_)
      refine x_eqi (x := o_X5_size ((f 3 (rix N ((nI i) + v))) - ((f 4) i))) (y := iabs ((f 3 (rix N ((nI i) + v))) - ((f 4) i))) (sz_eq _) ?_
      refine lv_i2l S.1 S.2.1 dX5_unlike_34 rfl ?_
      refine lv_ladd S.1 S.2.1 dX5_unlike_35 ?_
      refine lv_lstore_n (lv' := [(2, .long ((sumL (fun y => Int32.toInt64 (iabs (f 3 (rix N (nI y + v)) - f 4 y))) i) + (Int32.toInt64 (iabs ((f 3 (rix N ((nI i) + v))) - ((f 4) i)))))), (0, .ref (a 0)), (1, .int v), (4, .int (nI i))]) S.1 S.2.1 dX5_unlike_36 rfl hl (by decide) rfl (fun ls hl => ?_)
      refine lv_iinc (v := nI (i + 1)) (lv' := [(4, .int (nI (i + 1))), (2, .long ((sumL (fun y => Int32.toInt64 (iabs (f 3 (rix N (nI y + v)) - f 4 y))) i) + (Int32.toInt64 (iabs ((f 3 (rix N ((nI i) + v))) - ((f 4) i)))))), (0, .ref (a 0)), (1, .int v)]) S.1 S.2.1 dX5_unlike_37 hl (k := 3) rfl (x_inc _) (by decide) rfl (fun ls hl => ?_)
      refine lv_goto (tgt := 5) S.1 S.2.1 dX5_unlike_40 (by decide) ?_
      exact ih (i + 1) _ _ _ (by omega) (by omega) w (lv_sub hl [2, 3, 1, 0] rfl)
def o_X5_unlike (s : Nat → Int32) (f : Nat → Nat → Int32) (N : Nat) (v : Int32) : Int64 := o_X5_unlike_5 s f N v
set_option maxHeartbeats 4000000 in
set_option maxRecDepth 100000 in
theorem k_X5_unlike (l : Launch) (D : va_G) (cI cO : ClassId) (a : Nat → Nat) (R : va_W) (s : Nat → Int32) (f : Nat → Nat → Int32) (N : Nat) (v : Int32) (hN : s 0 = nI N) (h4 : 4 ≤ N) (h48 : N ≤ 48) : Ml l yX5_unlike cX5_unlike 5 (some .long) { frames := 1, cells := 0, slots := 0, locals := 21 } D (kT cI cO) (mW cI cO a s f R) [.ref (a 0), .int v] (mW cI cO a s f R) (o_X5_unlike s f N v) := by
  intro sz
  refine ent (by decide +kernel) (Nat.le_of_ble_eq_true rfl) ?_
  intro p e st m below meth c ls S hr hlk hnm w hsz hl
  have hl : lv_has ls 5 [(0, .ref (a 0)), (1, .int v)] := hl
  refine lv_lconst (v := 0) S.1 S.2.1 dX5_unlike_0 (by decide) ?_
  refine lv_lstore_n (lv' := [(2, .long 0), (0, .ref (a 0)), (1, .int v)]) S.1 S.2.1 dX5_unlike_1 rfl hl (by decide) rfl (fun ls hl => ?_)
  refine lv_iconst (v := 0) S.1 S.2.1 dX5_unlike_2 (by decide) ?_
  refine lv_istore (lv' := [(4, .int 0), (2, .long 0), (0, .ref (a 0)), (1, .int v)]) S.1 S.2.1 dX5_unlike_3 hl (by decide) rfl (fun ls hl => ?_)
  refine x_tol (show o_X5_unlike_5 s f N v = o_X5_unlike s f N v from by simp only [o_X5_unlike]) (show mW cI cO a s f R = mW cI cO a s f R from by simp only [o_X5_unlike]) ?_
  exact j_X5_unlike_5 l D cI cO a R s f N v hN h4 h48 S hr hlk (N + 1) 0 _ _ _ (by omega) (by omega) w (lv_sub hl [2, 3, 1, 0] rfl)
