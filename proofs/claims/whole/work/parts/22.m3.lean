def shF (f : Nat → Nat → Int32) (N K G : Nat) : Int32 := if K = 0 then 0 else bst (misf f N) G
theorem shF_0 (f : Nat → Nat → Int32) (N G : Nat) : shF f N 0 G = 0 := if_pos rfl
def shE (t u : Nat) (o : Nat → Int32) : Nat → Int32 := fun j => if (48 * t ≤ j ∧ j < 48 * t + u) ∨ (48 * (t + 1) ≤ j ∧ j < 240) then o (j - 48) else o j
def shN (t : Nat) (o : Nat → Int32) : Nat → Int32 := fun j => if t + 1 ≤ j ∧ j < 5 then o (j - 1) else o j
theorem shE_0 (o : Nat → Int32) : shE 4 0 o = o := funext fun j => if_neg (by omega)
theorem shN_0 (o : Nat → Int32) : shN 4 o = o := funext fun j => if_neg (by omega)
theorem shE_lt {t u j : Nat} (o : Nat → Int32) (h : j < 48 * t) : shE t u o j = o j := if_neg (by omega)
theorem shN_lt {t j : Nat} (o : Nat → Int32) (h : j ≤ t) : shN t o j = o j := if_neg (by omega)
theorem shE_up {t u : Nat} {o : Nat → Int32} {v : Int32} (h1 : 1 ≤ t) (h4 : t ≤ 4) (hu : u < 48) (hv : v = o (48 * (t - 1) + u)) : upd (shE t u o) (48 * t + u) v = shE t (u + 1) o := by
  subst hv
  funext j
  unfold upd shE
  by_cases h : j = 48 * t + u
  · subst h
    rw [if_pos rfl, if_pos (by omega)]
    congr 1
    omega
  · rw [if_neg h]
    by_cases h2 : (48 * t ≤ j ∧ j < 48 * t + u) ∨ (48 * (t + 1) ≤ j ∧ j < 240)
    · rw [if_pos h2, if_pos (by omega)]
    · rw [if_neg h2, if_neg (by omega)]
theorem shE_nx {t : Nat} {o : Nat → Int32} (h1 : 1 ≤ t) (h4 : t ≤ 4) : shE t 48 o = shE (t - 1) 0 o := by
  funext j
  unfold shE
  by_cases h2 : (48 * t ≤ j ∧ j < 48 * t + 48) ∨ (48 * (t + 1) ≤ j ∧ j < 240)
  · rw [if_pos h2, if_pos (by omega)]
  · rw [if_neg h2, if_neg (by omega)]
theorem shN_up {t : Nat} {o : Nat → Int32} {v : Int32} (h1 : 1 ≤ t) (h4 : t ≤ 4) (hv : v = o (t - 1)) : upd (shN t o) t v = shN (t - 1) o := by
  subst hv
  funext j
  unfold upd shN
  by_cases h : j = t
  · subst h
    rw [if_pos rfl, if_pos (by omega)]
  · rw [if_neg h]
    by_cases h2 : t + 1 ≤ j ∧ j < 5
    · rw [if_pos h2, if_pos (by omega)]
    · rw [if_neg h2, if_neg (by omega)]
theorem nI_m1 {t : Nat} (h : 1 ≤ t) : nI t + Int32.ofInt (-1) = nI (t - 1) := by
  obtain ⟨n, rfl⟩ : ∃ n, t = n + 1 := ⟨t - 1, by omega⟩
  exact pk_m1 n
def mkF (f : Nat → Nat → Int32) : Nat → Nat → Int32 := va_up (va_up (va_up f 10 (shE 1 48 (f 10))) 7 (shN 0 (f 7))) 8 (shN 0 (f 8))
def eaF (f : Nat → Nat → Int32) (N : Nat) (v : Int32) : Nat → Int32 := fun y => f 0 y - alF f N v y
def nmF (f : Nat → Nat → Int32) (N : Nat) (v : Int32) : Nat → Int32 := sumI (fun y => iabs (eaF f N v y))
def fiF (f : Nat → Nat → Int32) (N : Nat) (v : Int32) (i j k : Nat) : Nat → Nat → Int32 := va_up (va_up (va_up (mkF f) 4 (pfx i (alF f N v) (f 4))) 5 (pfx j (eaF f N v) (f 5))) 10 (pfx k (eaF f N v) (mkF f 10))
theorem fi_4 {f : Nat → Nat → Int32} {N i j k : Nat} {v x : Int32} (hx : x = alF f N v i) : va_up (fiF f N v i j k) 4 (upd (fiF f N v i j k 4) i x) = fiF f N v (i + 1) j k := by
  show va_up (va_up (va_up (va_up (mkF f) 4 _) 5 _) 10 _) 4 (upd (pfx i (alF f N v) (f 4)) i x) = _
  rw [va_3a (by decide) (by decide), pfx_upd hx]; rfl
theorem fi_5 {f : Nat → Nat → Int32} {N i j k : Nat} {v x : Int32} (hx : x = eaF f N v j) : va_up (fiF f N v i j k) 5 (upd (fiF f N v i j k 5) j x) = fiF f N v i (j + 1) k := by
  show va_up (va_up (va_up (va_up (mkF f) 4 _) 5 _) 10 _) 5 (upd (pfx j (eaF f N v) (f 5)) j x) = _
  rw [va_3b (by decide), pfx_upd hx]; rfl
theorem fi_10 {f : Nat → Nat → Int32} {N i j k : Nat} {v x : Int32} (hx : x = eaF f N v k) : va_up (fiF f N v i j k) 10 (upd (fiF f N v i j k 10) k x) = fiF f N v i j (k + 1) := by
  show va_up (va_up (va_up (va_up (mkF f) 4 _) 5 _) 10 _) 10 (upd (pfx k (eaF f N v) (mkF f 10)) k x) = _
  rw [va_uu, pfx_upd hx]; rfl
theorem fi_0 {f : Nat → Nat → Int32} {N : Nat} {v : Int32} : mkF f = fiF f N v 0 0 0 := by
  unfold fiF
  rw [pfx_0, pfx_0, pfx_0]
  funext y
  unfold va_up
  by_cases h : y = 10
  · subst h; rw [if_pos rfl]
  · rw [if_neg h]
    by_cases h : y = 5
    · subst h; rw [if_pos rfl]; rfl
    · rw [if_neg h]
      by_cases h : y = 4
      · subst h; rw [if_pos rfl]; rfl
      · rw [if_neg h]
def feF (f : Nat → Nat → Int32) (N : Nat) (v : Int32) : Nat → Nat → Int32 := va_up (va_up (fiF f N v N N N) 7 (upd (fiF f N v N N N 7) 0 (nmF f N v N))) 8 (upd (fiF f N v N N N 8) 0 v)
def o_X5_findShift_4 (s : Nat → Int32) (f : Nat → Nat → Int32) (N : Nat) (K : Nat) (G : Nat) : Int32 := shF f N K G
set_option maxHeartbeats 4000000 in
set_option maxRecDepth 100000 in
theorem j_X5_findShift_4 {p : Program} {e : Env} {st : State} {m : MethodId} {args : Array Value} {below : List Frame} {meth : Method} {c : Code} {ws0 : va_W} {sz : Nat} (l : Launch) (D : va_G) (cI cO : ClassId) (a : Nat → Nat) (R : va_W) (s : Nat → Int32) (f : Nat → Nat → Int32) (N : Nat) (K : Nat) (G : Nat) (hN : s 0 = nI N) (h4 : 4 ≤ N) (h48 : N ≤ 48) (hK : s 19 = nI K) (hK2 : K < 1000000) (hG : s 7 = nI G) (hG5 : G ≤ 5) (S : CallFix p m c cX5_findShift 3 st args wsL_law RX5) (hr : meth.sig.returnType = (some .int)) (hlk : meth.locks = false) : ∀ (n : Nat) (i : Nat) (H : Heap) (locs : List Loc) (ls : Array Slot), G + 1 ≤ i + n → i ≤ G → (0 < i → 0 < K) → Wd D (kT cI cO) (va_A ws0 sz) st.heap st (mW cI cO a s f R) H locs → lv_has ls 3 [(0, .ref (a 0)), (1, .int (bst (misf f N) i)), (2, .int (nI (i + 1)))] → W p l e { frames := 2, cells := 0, slots := 0, locals := 45 } st m args below meth c H locs 0 0 (MQ below (mQi D (kT cI cO) ws0 sz (mW cI cO a s f R) (o_X5_findShift_4 s f N K G)) args st 0 0 (va_A ws0 sz)) (F0 m 4 ls []) := by
  intro n
  induction n with
  | zero => intro i H locs ls hfu hi h0i w hl; exact absurd hfu (by omega)
  | succ n ih =>
    intro i H locs ls hfu hi h0i w hl
    refine lv_iload_n S.1 S.2.1 dX5_findShift_4 rfl (lv_at hl 2 rfl) ?_
    refine lv_aload_n S.1 S.2.1 dX5_findShift_5 rfl (lv_at hl 0 rfl) ?_
    refine mg_7 S w lk_RX5_70 dX5_findShift_6 ?_
    refine x_eqi (x := s 7) (y := nI G) (hG) ?_
    refine lv_icmp_gt (tgt := 67) S.1 S.2.1 dX5_findShift_9 (by decide) (fun (c_1 : (nI G) < (nI (i + 1))) => ?_) (fun (c_1 : ¬ ((nI G) < (nI (i + 1)))) => ?_)
    · have he : i = G := by
        have := (nI_ltI (a := G) (b := i + 1) (by omega) (by omega)).mp c_1
        omega
      subst i
      refine lv_iload_n S.1 S.2.1 dX5_findShift_67 rfl (lv_at hl 1 rfl) ?_
      exact x_reti S w hr hlk dX5_findShift_68 (show bst (misf f N) G = o_X5_findShift_4 s f N K G from by rw [o_X5_findShift_4, shF]; split; (rename_i z9; rcases Nat.eq_zero_or_pos G with z | z; (rw [z]; rfl); (have := h0i z; omega)); rfl) (show mW cI cO a s f R = mW cI cO a s f R from rfl)
    · have hlt : i < G := Nat.lt_of_not_le (fun z => c_1 (nI_lt (by omega) (by omega)))
      refine lv_aload_n S.1 S.2.1 dX5_findShift_12 rfl (lv_at hl 0 rfl) ?_
      refine mg_19 S w lk_RX5_92 dX5_findShift_13 ?_
      refine x_eqi (x := s 19) (y := nI K) (hK) ?_
      refine lv_if_le (tgt := 67) S.1 S.2.1 dX5_findShift_16 (by decide) (fun (c_2 : (nI K) ≤ 0) => ?_) (fun (c_2 : ¬ ((nI K) ≤ 0)) => ?_)
      · have hK0 : K = 0 := by
          have := (nI_leI (a := K) (b := 0) (by omega) (by omega)).mp c_2
          omega
        have hi0 : i = 0 := by
          rcases Nat.eq_zero_or_pos i with z | z
          · exact z
          · have := h0i z
            omega
        refine lv_iload_n S.1 S.2.1 dX5_findShift_67 rfl (lv_at hl 1 rfl) ?_
        exact x_reti S w hr hlk dX5_findShift_68 (show bst (misf f N) i = o_X5_findShift_4 s f N K G from by rw [o_X5_findShift_4, shF, if_pos hK0, hi0]; rfl) (show mW cI cO a s f R = mW cI cO a s f R from rfl)
      · have hK0 : 0 < K := Nat.pos_of_ne_zero (fun z => c_2 (by rw [z]; exact Int32.le_refl _))
        refine lv_aload_n S.1 S.2.1 dX5_findShift_19 rfl (lv_at hl 0 rfl) ?_
        refine lv_iload_n S.1 S.2.1 dX5_findShift_20 rfl (lv_at hl 2 rfl) ?_
        refine lv_ineg S.1 S.2.1 dX5_findShift_21 ?_
        refine x_Vl (As := [.int (-(nI (i + 1)))]) (rest := []) S w (goodV lk_RX5_143 li_X5_unlike ls_X5_unlike ln_RX5 lc_X5_unlike) hV_X5_unlike (k_X5_unlike l D cI cO a R s f N (-(nI (i + 1))) hN h4 h48) rfl 0 5 rfl rfl mc_0 ⟨(Nat.le_of_ble_eq_true rfl), (Nat.le_of_ble_eq_true rfl)⟩ ⟨rfl, rfl⟩ hl.1 rfl (Nat.le_of_ble_eq_true rfl) ⟨Nat.zero_le _, Nat.zero_le _⟩ dX5_findShift_22 (fun H locs (w : Wd D (kT cI cO) (va_A _ _) _ _ (mW cI cO a s f R) H locs) => ?_)
        refine x_eql (x := o_X5_unlike s f N (-(nI (i + 1)))) (y := sumL (fun y => Int32.toInt64 (iabs (f 3 (rix N (nI y + (-(nI (i + 1))))) - f 4 y))) N) rfl ?_
        refine x_eql (x := sumL (fun y => Int32.toInt64 (iabs (f 3 (rix N (nI y + (-(nI (i + 1))))) - f 4 y))) N) (y := misf f N (-(nI (i + 1)))) (rfl) ?_
        refine lv_aload_n S.1 S.2.1 dX5_findShift_25 rfl (lv_at hl 0 rfl) ?_
        refine lv_iload_n S.1 S.2.1 dX5_findShift_26 rfl (lv_at hl 1 rfl) ?_
        refine x_Vl (As := [.int (bst (misf f N) i)]) (rest := [.long (misf f N (-(nI (i + 1))))]) S w (goodV lk_RX5_143 li_X5_unlike ls_X5_unlike ln_RX5 lc_X5_unlike) hV_X5_unlike (k_X5_unlike l D cI cO a R s f N (bst (misf f N) i) hN h4 h48) rfl 0 5 rfl rfl mc_0 ⟨(Nat.le_of_ble_eq_true rfl), (Nat.le_of_ble_eq_true rfl)⟩ ⟨rfl, rfl⟩ hl.1 rfl (Nat.le_of_ble_eq_true rfl) ⟨Nat.zero_le _, Nat.zero_le _⟩ dX5_findShift_27 (fun H locs (w : Wd D (kT cI cO) (va_A _ _) _ _ (mW cI cO a s f R) H locs) => ?_)
        refine x_eql (x := o_X5_unlike s f N (bst (misf f N) i)) (y := sumL (fun y => Int32.toInt64 (iabs (f 3 (rix N (nI y + (bst (misf f N) i))) - f 4 y))) N) rfl ?_
        refine x_eql (x := sumL (fun y => Int32.toInt64 (iabs (f 3 (rix N (nI y + (bst (misf f N) i))) - f 4 y))) N) (y := misf f N (bst (misf f N) i)) (rfl) ?_
        refine x_lif_ge (tgt := 39) S.1 S.2.1 dX5_findShift_30 dX5_findShift_31 (by decide) (fun (c_3 : (misf f N (bst (misf f N) i)) ≤ (misf f N (-(nI (i + 1))))) => ?_) (fun (c_3 : ¬ ((misf f N (bst (misf f N) i)) ≤ (misf f N (-(nI (i + 1)))))) => ?_)
        · refine lv_iload_n S.1 S.2.1 dX5_findShift_39 rfl (lv_at hl 1 rfl) ?_
          refine lv_istore_n (lv' := [(1, .int (bst (misf f N) i)), (0, .ref (a 0)), (2, .int (nI (i + 1)))]) S.1 S.2.1 dX5_findShift_40 rfl hl (by decide) rfl (fun ls hl => ?_)
          refine lv_aload_n S.1 S.2.1 dX5_findShift_41 rfl (lv_at hl 1 rfl) ?_
          refine lv_iload_n S.1 S.2.1 dX5_findShift_42 rfl (lv_at hl 2 rfl) ?_
          refine x_Vl (As := [.int (nI (i + 1))]) (rest := []) S w (goodV lk_RX5_143 li_X5_unlike ls_X5_unlike ln_RX5 lc_X5_unlike) hV_X5_unlike (k_X5_unlike l D cI cO a R s f N (nI (i + 1)) hN h4 h48) rfl 0 5 rfl rfl mc_0 ⟨(Nat.le_of_ble_eq_true rfl), (Nat.le_of_ble_eq_true rfl)⟩ ⟨rfl, rfl⟩ hl.1 rfl (Nat.le_of_ble_eq_true rfl) ⟨Nat.zero_le _, Nat.zero_le _⟩ dX5_findShift_43 (fun H locs (w : Wd D (kT cI cO) (va_A _ _) _ _ (mW cI cO a s f R) H locs) => ?_)
          refine x_eql (x := o_X5_unlike s f N (nI (i + 1))) (y := sumL (fun y => Int32.toInt64 (iabs (f 3 (rix N (nI y + (nI (i + 1)))) - f 4 y))) N) rfl ?_
          refine x_eql (x := sumL (fun y => Int32.toInt64 (iabs (f 3 (rix N (nI y + (nI (i + 1)))) - f 4 y))) N) (y := misf f N (nI (i + 1))) (rfl) ?_
          refine lv_aload_n S.1 S.2.1 dX5_findShift_46 rfl (lv_at hl 1 rfl) ?_
          refine lv_iload_n S.1 S.2.1 dX5_findShift_47 rfl (lv_at hl 0 rfl) ?_
          refine x_Vl (As := [.int (bst (misf f N) i)]) (rest := [.long (misf f N (nI (i + 1)))]) S w (goodV lk_RX5_143 li_X5_unlike ls_X5_unlike ln_RX5 lc_X5_unlike) hV_X5_unlike (k_X5_unlike l D cI cO a R s f N (bst (misf f N) i) hN h4 h48) rfl 0 5 rfl rfl mc_0 ⟨(Nat.le_of_ble_eq_true rfl), (Nat.le_of_ble_eq_true rfl)⟩ ⟨rfl, rfl⟩ hl.1 rfl (Nat.le_of_ble_eq_true rfl) ⟨Nat.zero_le _, Nat.zero_le _⟩ dX5_findShift_48 (fun H locs (w : Wd D (kT cI cO) (va_A _ _) _ _ (mW cI cO a s f R) H locs) => ?_)
          refine x_eql (x := o_X5_unlike s f N (bst (misf f N) i)) (y := sumL (fun y => Int32.toInt64 (iabs (f 3 (rix N (nI y + (bst (misf f N) i))) - f 4 y))) N) rfl ?_
          refine x_eql (x := sumL (fun y => Int32.toInt64 (iabs (f 3 (rix N (nI y + (bst (misf f N) i))) - f 4 y))) N) (y := misf f N (bst (misf f N) i)) (rfl) ?_
          refine x_lif_ge (tgt := 59) S.1 S.2.1 dX5_findShift_51 dX5_findShift_52 (by decide) (fun (c_4 : (misf f N (bst (misf f N) i)) ≤ (misf f N (nI (i + 1)))) => ?_) (fun (c_4 : ¬ ((misf f N (bst (misf f N) i)) ≤ (misf f N (nI (i + 1))))) => ?_)
          · refine lv_iload_n S.1 S.2.1 dX5_findShift_59 rfl (lv_at hl 0 rfl) ?_
            refine lv_istore_n (lv' := [(1, .int (bst (misf f N) i)), (0, .ref (a 0)), (2, .int (nI (i + 1)))]) S.1 S.2.1 dX5_findShift_60 rfl hl (by decide) rfl (fun ls hl => ?_)
            refine lv_iinc (v := nI ((i + 1) + 1)) (lv' := [(2, .int (nI ((i + 1) + 1))), (1, .int (bst (misf f N) i)), (0, .ref (a 0))]) S.1 S.2.1 dX5_findShift_61 hl (k := 2) rfl (x_inc _) (by decide) rfl (fun ls hl => ?_)
            refine lv_goto (tgt := 4) S.1 S.2.1 dX5_findShift_64 (by decide) ?_
            have hs : bst (misf f N) i = bst (misf f N) (i + 1) := by
              rw [bst, if_neg (Int64.not_lt.mpr c_3), if_neg (Int64.not_lt.mpr c_4)]
            exact ih (i + 1) _ _ _ (by omega) (by omega) (fun _ => hK0) w (lv_sub hl [2, 1, 0] (by rw [← hs]; rfl))
          · refine lv_iload_n S.1 S.2.1 dX5_findShift_55 rfl (lv_at hl 2 rfl) ?_
            refine lv_goto (tgt := 60) S.1 S.2.1 dX5_findShift_56 (by decide) ?_
            refine lv_istore_n (lv' := [(1, .int (nI (i + 1))), (0, .ref (a 0)), (2, .int (nI (i + 1)))]) S.1 S.2.1 dX5_findShift_60 rfl hl (by decide) rfl (fun ls hl => ?_)
            refine lv_iinc (v := nI ((i + 1) + 1)) (lv' := [(2, .int (nI ((i + 1) + 1))), (1, .int (nI (i + 1))), (0, .ref (a 0))]) S.1 S.2.1 dX5_findShift_61 hl (k := 2) rfl (x_inc _) (by decide) rfl (fun ls hl => ?_)
            refine lv_goto (tgt := 4) S.1 S.2.1 dX5_findShift_64 (by decide) ?_
            have hs : nI (i + 1) = bst (misf f N) (i + 1) := by
              rw [bst, if_neg (Int64.not_lt.mpr c_3), if_pos (Int64.not_le.mp c_4)]
            exact ih (i + 1) _ _ _ (by omega) (by omega) (fun _ => hK0) w (lv_sub hl [2, 1, 0] (by rw [← hs]; rfl))
        · refine lv_iload_n S.1 S.2.1 dX5_findShift_34 rfl (lv_at hl 2 rfl) ?_
          refine lv_ineg S.1 S.2.1 dX5_findShift_35 ?_
          refine lv_goto (tgt := 40) S.1 S.2.1 dX5_findShift_36 (by decide) ?_
          refine lv_istore_n (lv' := [(1, .int (-(nI (i + 1)))), (0, .ref (a 0)), (2, .int (nI (i + 1)))]) S.1 S.2.1 dX5_findShift_40 rfl hl (by decide) rfl (fun ls hl => ?_)
          refine lv_aload_n S.1 S.2.1 dX5_findShift_41 rfl (lv_at hl 1 rfl) ?_
          refine lv_iload_n S.1 S.2.1 dX5_findShift_42 rfl (lv_at hl 2 rfl) ?_
          refine x_Vl (As := [.int (nI (i + 1))]) (rest := []) S w (goodV lk_RX5_143 li_X5_unlike ls_X5_unlike ln_RX5 lc_X5_unlike) hV_X5_unlike (k_X5_unlike l D cI cO a R s f N (nI (i + 1)) hN h4 h48) rfl 0 5 rfl rfl mc_0 ⟨(Nat.le_of_ble_eq_true rfl), (Nat.le_of_ble_eq_true rfl)⟩ ⟨rfl, rfl⟩ hl.1 rfl (Nat.le_of_ble_eq_true rfl) ⟨Nat.zero_le _, Nat.zero_le _⟩ dX5_findShift_43 (fun H locs (w : Wd D (kT cI cO) (va_A _ _) _ _ (mW cI cO a s f R) H locs) => ?_)
          refine x_eql (x := o_X5_unlike s f N (nI (i + 1))) (y := sumL (fun y => Int32.toInt64 (iabs (f 3 (rix N (nI y + (nI (i + 1)))) - f 4 y))) N) rfl ?_
          refine x_eql (x := sumL (fun y => Int32.toInt64 (iabs (f 3 (rix N (nI y + (nI (i + 1)))) - f 4 y))) N) (y := misf f N (nI (i + 1))) (rfl) ?_
          refine lv_aload_n S.1 S.2.1 dX5_findShift_46 rfl (lv_at hl 1 rfl) ?_
          refine lv_iload_n S.1 S.2.1 dX5_findShift_47 rfl (lv_at hl 0 rfl) ?_
          refine x_Vl (As := [.int (-(nI (i + 1)))]) (rest := [.long (misf f N (nI (i + 1)))]) S w (goodV lk_RX5_143 li_X5_unlike ls_X5_unlike ln_RX5 lc_X5_unlike) hV_X5_unlike (k_X5_unlike l D cI cO a R s f N (-(nI (i + 1))) hN h4 h48) rfl 0 5 rfl rfl mc_0 ⟨(Nat.le_of_ble_eq_true rfl), (Nat.le_of_ble_eq_true rfl)⟩ ⟨rfl, rfl⟩ hl.1 rfl (Nat.le_of_ble_eq_true rfl) ⟨Nat.zero_le _, Nat.zero_le _⟩ dX5_findShift_48 (fun H locs (w : Wd D (kT cI cO) (va_A _ _) _ _ (mW cI cO a s f R) H locs) => ?_)
          refine x_eql (x := o_X5_unlike s f N (-(nI (i + 1)))) (y := sumL (fun y => Int32.toInt64 (iabs (f 3 (rix N (nI y + (-(nI (i + 1))))) - f 4 y))) N) rfl ?_
          refine x_eql (x := sumL (fun y => Int32.toInt64 (iabs (f 3 (rix N (nI y + (-(nI (i + 1))))) - f 4 y))) N) (y := misf f N (-(nI (i + 1)))) (rfl) ?_
          refine x_lif_ge (tgt := 59) S.1 S.2.1 dX5_findShift_51 dX5_findShift_52 (by decide) (fun (c_5 : (misf f N (-(nI (i + 1)))) ≤ (misf f N (nI (i + 1)))) => ?_) (fun (c_5 : ¬ ((misf f N (-(nI (i + 1)))) ≤ (misf f N (nI (i + 1))))) => ?_)
          · refine lv_iload_n S.1 S.2.1 dX5_findShift_59 rfl (lv_at hl 0 rfl) ?_
            refine lv_istore_n (lv' := [(1, .int (-(nI (i + 1)))), (0, .ref (a 0)), (2, .int (nI (i + 1)))]) S.1 S.2.1 dX5_findShift_60 rfl hl (by decide) rfl (fun ls hl => ?_)
            refine lv_iinc (v := nI ((i + 1) + 1)) (lv' := [(2, .int (nI ((i + 1) + 1))), (1, .int (-(nI (i + 1)))), (0, .ref (a 0))]) S.1 S.2.1 dX5_findShift_61 hl (k := 2) rfl (x_inc _) (by decide) rfl (fun ls hl => ?_)
            refine lv_goto (tgt := 4) S.1 S.2.1 dX5_findShift_64 (by decide) ?_
            have hs : -(nI (i + 1)) = bst (misf f N) (i + 1) := by
              rw [bst, if_pos (Int64.not_le.mp c_3), if_neg (Int64.not_lt.mpr c_5)]
            exact ih (i + 1) _ _ _ (by omega) (by omega) (fun _ => hK0) w (lv_sub hl [2, 1, 0] (by rw [← hs]; rfl))
          · refine lv_iload_n S.1 S.2.1 dX5_findShift_55 rfl (lv_at hl 2 rfl) ?_
            refine lv_goto (tgt := 60) S.1 S.2.1 dX5_findShift_56 (by decide) ?_
            refine lv_istore_n (lv' := [(1, .int (nI (i + 1))), (0, .ref (a 0)), (2, .int (nI (i + 1)))]) S.1 S.2.1 dX5_findShift_60 rfl hl (by decide) rfl (fun ls hl => ?_)
            refine lv_iinc (v := nI ((i + 1) + 1)) (lv' := [(2, .int (nI ((i + 1) + 1))), (1, .int (nI (i + 1))), (0, .ref (a 0))]) S.1 S.2.1 dX5_findShift_61 hl (k := 2) rfl (x_inc _) (by decide) rfl (fun ls hl => ?_)
            refine lv_goto (tgt := 4) S.1 S.2.1 dX5_findShift_64 (by decide) ?_
            have hs : nI (i + 1) = bst (misf f N) (i + 1) := by
              rw [bst, if_pos (Int64.not_le.mp c_3), if_pos (Int64.not_le.mp c_5)]
            exact ih (i + 1) _ _ _ (by omega) (by omega) (fun _ => hK0) w (lv_sub hl [2, 1, 0] (by rw [← hs]; rfl))
def o_X5_findShift (s : Nat → Int32) (f : Nat → Nat → Int32) (N : Nat) (K : Nat) (G : Nat) : Int32 := shF f N K G
set_option maxHeartbeats 4000000 in
set_option maxRecDepth 100000 in
theorem k_X5_findShift (l : Launch) (D : va_G) (cI cO : ClassId) (a : Nat → Nat) (R : va_W) (s : Nat → Int32) (f : Nat → Nat → Int32) (N : Nat) (K : Nat) (G : Nat) (hN : s 0 = nI N) (h4 : 4 ≤ N) (h48 : N ≤ 48) (hK : s 19 = nI K) (hK2 : K < 1000000) (hG : s 7 = nI G) (hG5 : G ≤ 5) : Mi l yX5_findShift cX5_findShift 3 (some .int) { frames := 2, cells := 0, slots := 0, locals := 45 } D (kT cI cO) (mW cI cO a s f R) [.ref (a 0)] (mW cI cO a s f R) (o_X5_findShift s f N K G) := by
  intro sz
  refine ent (by decide +kernel) (Nat.le_of_ble_eq_true rfl) ?_
  intro p e st m below meth c ls S hr hlk hnm w hsz hl
  have hl : lv_has ls 3 [(0, .ref (a 0))] := hl
  refine lv_iconst (v := 0) S.1 S.2.1 dX5_findShift_0 (by decide) ?_
  refine lv_istore_n (lv' := [(1, .int 0), (0, .ref (a 0))]) S.1 S.2.1 dX5_findShift_1 rfl hl (by decide) rfl (fun ls hl => ?_)
  refine lv_iconst (v := 1) S.1 S.2.1 dX5_findShift_2 (by decide) ?_
  refine lv_istore_n (lv' := [(2, .int 1), (1, .int 0), (0, .ref (a 0))]) S.1 S.2.1 dX5_findShift_3 rfl hl (by decide) rfl (fun ls hl => ?_)
  refine x_toi (show o_X5_findShift_4 s f N K G = o_X5_findShift s f N K G from rfl) (show mW cI cO a s f R = mW cI cO a s f R from rfl) ?_
  exact j_X5_findShift_4 l D cI cO a R s f N K G hN h4 h48 hK hK2 hG hG5 S hr hlk (G + 1) 0 _ _ _ (by omega) (by omega) (fun z => absurd z (Nat.lt_irrefl 0)) w (lv_sub hl [2, 1, 0] rfl)
def o_X5_makeRoom_8 (s : Nat → Int32) (f : Nat → Nat → Int32) : (Nat → Nat → Int32) := mkF f
set_option maxHeartbeats 4000000 in
set_option maxRecDepth 100000 in
theorem j_X5_makeRoom_8 {p : Program} {e : Env} {st : State} {m : MethodId} {args : Array Value} {below : List Frame} {meth : Method} {c : Code} {ws0 : va_W} {sz : Nat} (l : Launch) (D : va_G) (cI cO : ClassId) (a : Nat → Nat) (R : va_W) (s : Nat → Int32) (f : Nat → Nat → Int32) (S : CallFix p m c cX5_makeRoom 3 st args wsL_law RX5) (hr : meth.sig.returnType = none) (hlk : meth.locks = false) : ∀ (n : Nat) (t : Nat) (u : Nat) (H : Heap) (locs : List Loc) (ls : Array Slot), t * 49 + (48 - u) + 1 ≤ n → 1 ≤ t ∧ t ≤ 4 → u ≤ 48 → Wd D (kT cI cO) (va_A ws0 sz) st.heap st (mW cI cO a s (va_up (va_up (va_up f 10 (shE t u (f 10))) 7 (shN t (f 7))) 8 (shN t (f 8))) R) H locs → lv_has ls 3 [(0, .ref (a 0)), (1, .int (nI t)), (2, .int (nI u))] → W p l e { frames := 0, cells := 0, slots := 0, locals := 0 } st m args below meth c H locs 0 0 (MQ below (mQv D (kT cI cO) ws0 sz (mW cI cO a s (o_X5_makeRoom_8 s f) R)) args st 0 0 (va_A ws0 sz)) (F0 m 8 ls []) := by
  intro n
  induction n with
  | zero => intro t u H locs ls hfu ht hu w hl; exact absurd hfu (by omega)
  | succ n ih =>
    intro t u H locs ls hfu ht hu w hl
    refine lv_iload_n S.1 S.2.1 dX5_makeRoom_8 rfl (lv_at hl 2 rfl) ?_
    refine lv_bipush (v := 48) S.1 S.2.1 dX5_makeRoom_9 (by decide) ?_
    refine lv_icmp_ge (tgt := 44) S.1 S.2.1 dX5_makeRoom_11 (by decide) (fun (c_1 : 48 ≤ (nI u)) => ?_) (fun (c_1 : ¬ (48 ≤ (nI u))) => ?_)
    · have he : u = 48 := by
        have := (nI_leI (a := 48) (b := u) (by omega) (by omega)).mp c_1
        omega
      subst u
      refine lv_aload_n S.1 S.2.1 dX5_makeRoom_44 rfl (lv_at hl 0 rfl) ?_
      refine mr_8 S w lk_RX5_28 dX5_makeRoom_45 ?_
      refine lv_iload_n S.1 S.2.1 dX5_makeRoom_48 rfl (lv_at hl 1 rfl) ?_
      refine lv_aload_n S.1 S.2.1 dX5_makeRoom_49 rfl (lv_at hl 0 rfl) ?_
      refine mr_8 S w lk_RX5_28 dX5_makeRoom_50 ?_
      refine lv_iload_n S.1 S.2.1 dX5_makeRoom_53 rfl (lv_at hl 1 rfl) ?_
      refine lv_iconst (v := 1) S.1 S.2.1 dX5_makeRoom_54 (by decide) ?_
      refine lv_isub S.1 S.2.1 dX5_makeRoom_55 ?_
      refine x_eqi (x := (nI t) - 1) (y := nI (t - 1)) (pk_sub (b := 1) (by omega)) ?_
      refine x_iald S w 8 0 (g := shN t (f 7)) (v := f 7 (t - 1)) (t - 1) (by omega) (rfl) (Nat.le_of_ble_eq_true rfl) (mc_8) rfl (shN_lt _ (by omega)) dX5_makeRoom_56 ?_
      refine x_iast S w 8 0 (g := shN t (f 7)) t (by omega) (rfl) (Nat.le_of_ble_eq_true rfl) (mc_8) rfl (ms_7) dX5_makeRoom_57 (fun H locs (w : Wd D (kT cI cO) (va_A _ _) _ _ (mW cI cO a s (va_up (va_up (va_up (va_up f 10 (shE t 48 (f 10))) 7 (shN t (f 7))) 8 (shN t (f 8))) 7 (upd (shN t (f 7)) t (f 7 (t - 1)))) R) H locs) => ?_)
      have w := w.to (show mW cI cO a s (va_up (va_up (va_up (va_up f 10 (shE t 48 (f 10))) 7 (shN t (f 7))) 8 (shN t (f 8))) 7 (upd (shN t (f 7)) t (f 7 (t - 1)))) R = mW cI cO a s (va_up (va_up (va_up f 10 (shE t 48 (f 10))) 7 (shN (t - 1) (f 7))) 8 (shN t (f 8))) R from m_f (by rw [va_3b (by decide), shN_up ht.1 ht.2 rfl]))
      refine lv_aload_n S.1 S.2.1 dX5_makeRoom_58 rfl (lv_at hl 0 rfl) ?_
      refine mr_9 S w lk_RX5_31 dX5_makeRoom_59 ?_
      refine lv_iload_n S.1 S.2.1 dX5_makeRoom_62 rfl (lv_at hl 1 rfl) ?_
      refine lv_aload_n S.1 S.2.1 dX5_makeRoom_63 rfl (lv_at hl 0 rfl) ?_
      refine mr_9 S w lk_RX5_31 dX5_makeRoom_64 ?_
      refine lv_iload_n S.1 S.2.1 dX5_makeRoom_67 rfl (lv_at hl 1 rfl) ?_
      refine lv_iconst (v := 1) S.1 S.2.1 dX5_makeRoom_68 (by decide) ?_
      refine lv_isub S.1 S.2.1 dX5_makeRoom_69 ?_
      refine x_eqi (x := (nI t) - 1) (y := nI (t - 1)) (pk_sub (b := 1) (by omega)) ?_
      refine x_iald S w 9 0 (g := shN t (f 8)) (v := f 8 (t - 1)) (t - 1) (by omega) (rfl) (Nat.le_of_ble_eq_true rfl) (mc_9) rfl (shN_lt _ (by omega)) dX5_makeRoom_70 ?_
      refine x_iast S w 9 0 (g := shN t (f 8)) t (by omega) (rfl) (Nat.le_of_ble_eq_true rfl) (mc_9) rfl (ms_8) dX5_makeRoom_71 (fun H locs (w : Wd D (kT cI cO) (va_A _ _) _ _ (mW cI cO a s (va_up (va_up (va_up (va_up f 10 (shE t 48 (f 10))) 7 (shN (t - 1) (f 7))) 8 (shN t (f 8))) 8 (upd (shN t (f 8)) t (f 8 (t - 1)))) R) H locs) => ?_)
      have w := w.to (show mW cI cO a s (va_up (va_up (va_up (va_up f 10 (shE t 48 (f 10))) 7 (shN (t - 1) (f 7))) 8 (shN t (f 8))) 8 (upd (shN t (f 8)) t (f 8 (t - 1)))) R = mW cI cO a s (va_up (va_up (va_up f 10 (shE t 48 (f 10))) 7 (shN (t - 1) (f 7))) 8 (shN (t - 1) (f 8))) R from m_f (by rw [va_uu, shN_up ht.1 ht.2 rfl]))
      refine lv_iinc (v := nI (t - 1)) (lv' := [(1, .int (nI (t - 1))), (0, .ref (a 0)), (2, .int (nI 48))]) S.1 S.2.1 dX5_makeRoom_72 hl (k := 1) rfl (nI_m1 ht.1) (by decide) rfl (fun ls hl => ?_)
      refine lv_goto (tgt := 2) S.1 S.2.1 dX5_makeRoom_75 (by decide) ?_
      refine lv_iload_n S.1 S.2.1 dX5_makeRoom_2 rfl (lv_at hl 0 rfl) ?_
      refine lv_if_le (tgt := 78) S.1 S.2.1 dX5_makeRoom_3 (by decide) (fun (c_2 : (nI (t - 1)) ≤ 0) => ?_) (fun (c_2 : ¬ ((nI (t - 1)) ≤ 0)) => ?_)
      · have ht1 : t = 1 := by
          have := (nI_leI (a := t - 1) (b := 0) (by omega) (by omega)).mp c_2
          omega
        subst t
        exact x_retv S w hr hlk dX5_makeRoom_78 (show mW cI cO a s (va_up (va_up (va_up f 10 (shE 1 48 (f 10))) 7 (shN (1 - 1) (f 7))) 8 (shN (1 - 1) (f 8))) R = mW cI cO a s (o_X5_makeRoom_8 s f) R from rfl)
      · have ht2 : 1 ≤ t - 1 := Nat.pos_of_ne_zero (fun z => c_2 (by rw [z]; exact Int32.le_refl _))
        refine lv_iconst (v := 0) S.1 S.2.1 dX5_makeRoom_6 (by decide) ?_
        refine lv_istore_n (lv' := [(2, .int 0), (1, .int (nI (t - 1))), (0, .ref (a 0))]) S.1 S.2.1 dX5_makeRoom_7 rfl hl (by decide) rfl (fun ls hl => ?_)
        exact ih (t - 1) 0 _ _ _ (by omega) (⟨ht2, by omega⟩) (by omega) (w.to (show mW cI cO a s (va_up (va_up (va_up f 10 (shE t 48 (f 10))) 7 (shN (t - 1) (f 7))) 8 (shN (t - 1) (f 8))) R = mW cI cO a s (va_up (va_up (va_up f 10 (shE (t - 1) 0 (f 10))) 7 (shN (t - 1) (f 7))) 8 (shN (t - 1) (f 8))) R from m_f (by rw [shE_nx ht.1 ht.2]))) (lv_sub hl [2, 1, 0] rfl)
    · have hlt : u < 48 := Nat.lt_of_not_le (fun z => c_1 (nI_le z (by omega)))
      refine lv_aload_n S.1 S.2.1 dX5_makeRoom_14 rfl (lv_at hl 0 rfl) ?_
      refine mr_11 S w lk_RX5_25 dX5_makeRoom_15 ?_
      refine lv_bipush (v := 48) S.1 S.2.1 dX5_makeRoom_18 (by decide) ?_
      refine lv_iload_n S.1 S.2.1 dX5_makeRoom_20 rfl (lv_at hl 1 rfl) ?_
      refine lv_imul S.1 S.2.1 dX5_makeRoom_21 ?_
      refine lv_iload_n S.1 S.2.1 dX5_makeRoom_22 rfl (lv_at hl 2 rfl) ?_
      refine lv_iadd S.1 S.2.1 dX5_makeRoom_23 ?_
      refine x_eqi (x := (48 * (nI t)) + (nI u)) (y := nI (48 * t + u)) (e_ix (by omega) (by omega)) ?_
      refine lv_aload_n S.1 S.2.1 dX5_makeRoom_24 rfl (lv_at hl 0 rfl) ?_
      refine mr_11 S w lk_RX5_25 dX5_makeRoom_25 ?_
      refine lv_bipush (v := 48) S.1 S.2.1 dX5_makeRoom_28 (by decide) ?_
      refine lv_iload_n S.1 S.2.1 dX5_makeRoom_30 rfl (lv_at hl 1 rfl) ?_
      refine lv_iconst (v := 1) S.1 S.2.1 dX5_makeRoom_31 (by decide) ?_
      refine lv_isub S.1 S.2.1 dX5_makeRoom_32 ?_
      refine x_eqi (x := (nI t) - 1) (y := nI (t - 1)) (pk_sub (b := 1) (by omega)) ?_
      refine lv_imul S.1 S.2.1 dX5_makeRoom_33 ?_
      refine lv_iload_n S.1 S.2.1 dX5_makeRoom_34 rfl (lv_at hl 2 rfl) ?_
      refine lv_iadd S.1 S.2.1 dX5_makeRoom_35 ?_
      refine x_eqi (x := (48 * (nI (t - 1))) + (nI u)) (y := nI (48 * (t - 1) + u)) (e_ix (by omega) (by omega)) ?_
      refine x_iald S w 11 0 (g := shE t u (f 10)) (v := f 10 (48 * (t - 1) + u)) (48 * (t - 1) + u) (by omega) (rfl) (Nat.le_of_ble_eq_true rfl) (mc_11) rfl (shE_lt _ (by omega)) dX5_makeRoom_36 ?_
      refine x_iast S w 11 0 (g := shE t u (f 10)) (48 * t + u) (by omega) (rfl) (Nat.le_of_ble_eq_true rfl) (mc_11) rfl (ms_10) dX5_makeRoom_37 (fun H locs (w : Wd D (kT cI cO) (va_A _ _) _ _ (mW cI cO a s (va_up (va_up (va_up (va_up f 10 (shE t u (f 10))) 7 (shN t (f 7))) 8 (shN t (f 8))) 10 (upd (shE t u (f 10)) (48 * t + u) (f 10 (48 * (t - 1) + u)))) R) H locs) => ?_)
      have w := w.to (show mW cI cO a s (va_up (va_up (va_up (va_up f 10 (shE t u (f 10))) 7 (shN t (f 7))) 8 (shN t (f 8))) 10 (upd (shE t u (f 10)) (48 * t + u) (f 10 (48 * (t - 1) + u)))) R = mW cI cO a s (va_up (va_up (va_up f 10 (shE t (u + 1) (f 10))) 7 (shN t (f 7))) 8 (shN t (f 8))) R from m_f (by rw [va_3a (by decide) (by decide), shE_up ht.1 ht.2 hlt rfl]))
      refine lv_iinc (v := nI (u + 1)) (lv' := [(2, .int (nI (u + 1))), (0, .ref (a 0)), (1, .int (nI t))]) S.1 S.2.1 dX5_makeRoom_38 hl (k := 2) rfl (x_inc _) (by decide) rfl (fun ls hl => ?_)
      refine lv_goto (tgt := 8) S.1 S.2.1 dX5_makeRoom_41 (by decide) ?_
      exact ih t (u + 1) _ _ _ (by omega) ht (by omega) w (lv_sub hl [1, 2, 0] rfl)
def o_X5_makeRoom (s : Nat → Int32) (f : Nat → Nat → Int32) : (Nat → Nat → Int32) := mkF f
set_option maxHeartbeats 4000000 in
set_option maxRecDepth 100000 in
theorem k_X5_makeRoom (l : Launch) (D : va_G) (cI cO : ClassId) (a : Nat → Nat) (R : va_W) (s : Nat → Int32) (f : Nat → Nat → Int32) : Mv l yX5_makeRoom cX5_makeRoom 3 none { frames := 0, cells := 0, slots := 0, locals := 0 } D (kT cI cO) (mW cI cO a s f R) [.ref (a 0)] (mW cI cO a s (o_X5_makeRoom s f) R) := by
  intro sz
  refine ent (by decide +kernel) (Nat.le_of_ble_eq_true rfl) ?_
  intro p e st m below meth c ls S hr hlk hnm w hsz hl
  have hl : lv_has ls 3 [(0, .ref (a 0))] := hl
  refine lv_iconst (v := 4) S.1 S.2.1 dX5_makeRoom_0 (by decide) ?_
  refine lv_istore_n (lv' := [(1, .int 4), (0, .ref (a 0))]) S.1 S.2.1 dX5_makeRoom_1 rfl hl (by decide) rfl (fun ls hl => ?_)
  refine lv_iload_n S.1 S.2.1 dX5_makeRoom_2 rfl (lv_at hl 0 rfl) ?_
  refine lv_if_le (tgt := 78) S.1 S.2.1 dX5_makeRoom_3 (by decide) (fun z => absurd z (by decide : ¬ ((4 : Int32) ≤ 0))) (fun _ => ?_)
  refine lv_iconst (v := 0) S.1 S.2.1 dX5_makeRoom_6 (by decide) ?_
  refine lv_istore_n (lv' := [(2, .int 0), (1, .int 4), (0, .ref (a 0))]) S.1 S.2.1 dX5_makeRoom_7 rfl hl (by decide) rfl (fun ls hl => ?_)
  refine x_tov  (show mW cI cO a s (o_X5_makeRoom_8 s f) R = mW cI cO a s (o_X5_makeRoom s f) R from rfl) ?_
  exact j_X5_makeRoom_8 l D cI cO a R s f S hr hlk (4 * 49 + 48 + 1) 4 0 _ _ _ (by omega) (by decide) (by omega) (w.to (show mW cI cO a s f R = mW cI cO a s (va_up (va_up (va_up f 10 (shE 4 0 (f 10))) 7 (shN 4 (f 7))) 8 (shN 4 (f 8))) R from m_f (by rw [shE_0, shN_0, shN_0, va_self, va_self, va_self]))) (lv_sub hl [2, 1, 0] rfl)
def o_X5_rate_32 (s : Nat → Int32) (f : Nat → Nat → Int32) (N : Nat) (q : Int32) : (Nat → Int32) × (Nat → Nat → Int32) := (upd (upd (upd s 22 (s 13 - 1)) 21 q) 16 0, va_up f 9 (pfx N (f 1) (f 9)))
set_option maxHeartbeats 4000000 in
set_option maxRecDepth 100000 in
theorem j_X5_rate_32 {p : Program} {e : Env} {st : State} {m : MethodId} {args : Array Value} {below : List Frame} {meth : Method} {c : Code} {ws0 : va_W} {sz : Nat} (l : Launch) (D : va_G) (cI cO : ClassId) (a : Nat → Nat) (R : va_W) (s : Nat → Int32) (f : Nat → Nat → Int32) (N : Nat) (q : Int32) (hN : s 0 = nI N) (h4 : 4 ≤ N) (h48 : N ≤ 48) (S : CallFix p m c cX5_rate 3 st args wsL_law RX5) (hr : meth.sig.returnType = none) (hlk : meth.locks = false) : ∀ (n : Nat) (i : Nat) (H : Heap) (locs : List Loc) (ls : Array Slot), N + 1 ≤ i + n → i ≤ N → Wd D (kT cI cO) (va_A ws0 sz) st.heap st (mW cI cO a (upd (upd s 22 (s 13 - 1)) 21 q) (va_up f 9 (pfx i (f 1) (f 9))) R) H locs → lv_has ls 3 [(0, .ref (a 0)), (1, .int q), (2, .int (nI i))] → W p l e { frames := 0, cells := 0, slots := 0, locals := 0 } st m args below meth c H locs 0 0 (MQ below (mQv D (kT cI cO) ws0 sz (mW cI cO a (o_X5_rate_32 s f N q).1 (o_X5_rate_32 s f N q).2 R)) args st 0 0 (va_A ws0 sz)) (F0 m 32 ls []) := by
  intro n
  induction n with
  | zero => intro i H locs ls hfu hi w hl; exact absurd hfu (by omega)
  | succ n ih =>
    intro i H locs ls hfu hi w hl
    refine lv_iload_n S.1 S.2.1 dX5_rate_32 rfl (lv_at hl 2 rfl) ?_
    refine lv_aload_n S.1 S.2.1 dX5_rate_33 rfl (lv_at hl 0 rfl) ?_
    refine mg_0 S w lk_RX5_47 dX5_rate_34 ?_
    refine x_eqi (x := (upd (upd s 22 (s 13 - 1)) 21 q) 0) (y := s 0) rfl ?_
    refine x_eqi (x := s 0) (y := nI N) (hN) ?_
    refine lv_icmp_ge (tgt := 58) S.1 S.2.1 dX5_rate_37 (by decide) (fun (c_1 : (nI N) ≤ (nI i)) => ?_) (fun (c_1 : ¬ ((nI N) ≤ (nI i))) => ?_)
    · have he : i = N := by
        have := (nI_leI (a := N) (b := i) (by omega) (by omega)).mp c_1
        omega
      subst i
      refine lv_aload_n S.1 S.2.1 dX5_rate_58 rfl (lv_at hl 0 rfl) ?_
      refine lv_iconst (v := 0) S.1 S.2.1 dX5_rate_59 (by decide) ?_
      refine mp_16 S w lk_RX5_101 dX5_rate_60 (fun H locs (w : Wd D (kT cI cO) (va_A _ _) _ _ (mW cI cO a (upd (upd (upd s 22 (s 13 - 1)) 21 q) 16 0) (va_up f 9 (pfx N (f 1) (f 9))) R) H locs) => ?_)
      refine lv_goto (tgt := 88) S.1 S.2.1 dX5_rate_63 (by decide) ?_
      exact x_retv S w hr hlk dX5_rate_88 (show mW cI cO a (upd (upd (upd s 22 (s 13 - 1)) 21 q) 16 0) (va_up f 9 (pfx N (f 1) (f 9))) R = mW cI cO a (o_X5_rate_32 s f N q).1 (o_X5_rate_32 s f N q).2 R from by simp only [o_X5_rate_32])
    · have hlt : i < N := Nat.lt_of_not_le (fun z => c_1 (nI_le z (by omega)))
      refine lv_aload_n S.1 S.2.1 dX5_rate_40 rfl (lv_at hl 0 rfl) ?_
      refine mr_10 S w lk_RX5_37 dX5_rate_41 ?_
      refine lv_iload_n S.1 S.2.1 dX5_rate_44 rfl (lv_at hl 2 rfl) ?_
      refine lv_aload_n S.1 S.2.1 dX5_rate_45 rfl (lv_at hl 0 rfl) ?_
      refine mr_2 S w lk_RX5_13 dX5_rate_46 ?_
      refine lv_iload_n S.1 S.2.1 dX5_rate_49 rfl (lv_at hl 2 rfl) ?_
      refine x_iald S w 2 0 (g := f 1) (v := (f 1) i) i (by omega) (rfl) (Nat.le_of_ble_eq_true rfl) (mc_2) rfl (rfl) dX5_rate_50 ?_
      refine x_iast S w 10 0 (g := pfx i (f 1) (f 9)) i (by omega) (rfl) (Nat.le_of_ble_eq_true rfl) (mc_10) rfl (ms_9) dX5_rate_51 (fun H locs (w : Wd D (kT cI cO) (va_A _ _) _ _ (mW cI cO a (upd (upd s 22 (s 13 - 1)) 21 q) (va_up (va_up f 9 (pfx i (f 1) (f 9))) 9 (upd (pfx i (f 1) (f 9)) i ((f 1) i))) R) H locs) => ?_)
      have w := w.to (show mW cI cO a (upd (upd s 22 (s 13 - 1)) 21 q) (va_up (va_up f 9 (pfx i (f 1) (f 9))) 9 (upd (pfx i (f 1) (f 9)) i ((f 1) i))) R = mW cI cO a (upd (upd s 22 (s 13 - 1)) 21 q) (va_up f 9 (pfx (i + 1) (f 1) (f 9))) R from m_f (va_step' rfl))
      refine lv_iinc (v := nI (i + 1)) (lv' := [(2, .int (nI (i + 1))), (0, .ref (a 0)), (1, .int q)]) S.1 S.2.1 dX5_rate_52 hl (k := 2) rfl (x_inc _) (by decide) rfl (fun ls hl => ?_)
      refine lv_goto (tgt := 32) S.1 S.2.1 dX5_rate_55 (by decide) ?_
      exact ih (i + 1) _ _ _ (by omega) (by omega) w (lv_sub hl [1, 2, 0] rfl)
def o_X5_rate (s : Nat → Int32) (f : Nat → Nat → Int32) (N : Nat) (q : Int32) : (Nat → Int32) × (Nat → Nat → Int32) := if (s 22) < 0 then o_X5_rate_32 s f N q else if (s 21) ≤ q then if q ≤ (s 21) then (upd s 16 0, f) else (upd s 16 ((s 16) + 1), f) else o_X5_rate_32 s f N q
set_option maxHeartbeats 4000000 in
set_option maxRecDepth 100000 in
theorem k_X5_rate (l : Launch) (D : va_G) (cI cO : ClassId) (a : Nat → Nat) (R : va_W) (s : Nat → Int32) (f : Nat → Nat → Int32) (N : Nat) (q : Int32) (hN : s 0 = nI N) (h4 : 4 ≤ N) (h48 : N ≤ 48) : Mv l yX5_rate cX5_rate 3 none { frames := 0, cells := 0, slots := 0, locals := 0 } D (kT cI cO) (mW cI cO a s f R) [.ref (a 0), .int q] (mW cI cO a (o_X5_rate s f N q).1 (o_X5_rate s f N q).2 R) := by
  intro sz
  refine ent (by decide +kernel) (Nat.le_of_ble_eq_true rfl) ?_
  intro p e st m below meth c ls S hr hlk hnm w hsz hl
  have hl : lv_has ls 3 [(0, .ref (a 0)), (1, .int q)] := hl
  refine lv_aload_n S.1 S.2.1 dX5_rate_0 rfl (lv_at hl 0 rfl) ?_
  refine mg_22 S w lk_RX5_104 dX5_rate_1 ?_
  refine lv_if_lt (tgt := 15) S.1 S.2.1 dX5_rate_4 (by decide) (fun (c_2 : (s 22) < 0) => ?_) (fun (c_2 : ¬ ((s 22) < 0)) => ?_)
  · refine lv_aload_n S.1 S.2.1 dX5_rate_15 rfl (lv_at hl 0 rfl) ?_
    refine lv_aload_n S.1 S.2.1 dX5_rate_16 rfl (lv_at hl 0 rfl) ?_
    refine mg_13 S w lk_RX5_89 dX5_rate_17 ?_
    refine lv_iconst (v := 1) S.1 S.2.1 dX5_rate_20 (by decide) ?_
    refine lv_isub S.1 S.2.1 dX5_rate_21 ?_
    refine mp_22 S w lk_RX5_104 dX5_rate_22 (fun H locs (w : Wd D (kT cI cO) (va_A _ _) _ _ (mW cI cO a (upd s 22 ((s 13) - 1)) f R) H locs) => ?_)
    refine lv_aload_n S.1 S.2.1 dX5_rate_25 rfl (lv_at hl 0 rfl) ?_
    refine lv_iload_n S.1 S.2.1 dX5_rate_26 rfl (lv_at hl 1 rfl) ?_
    refine mp_21 S w lk_RX5_161 dX5_rate_27 (fun H locs (w : Wd D (kT cI cO) (va_A _ _) _ _ (mW cI cO a (upd (upd s 22 ((s 13) - 1)) 21 q) f R) H locs) => ?_)
    refine lv_iconst (v := 0) S.1 S.2.1 dX5_rate_30 (by decide) ?_
    refine lv_istore_n (lv' := [(2, .int 0), (0, .ref (a 0)), (1, .int q)]) S.1 S.2.1 dX5_rate_31 rfl hl (by decide) rfl (fun ls hl => ?_)
    refine x_tov  (show mW cI cO a (o_X5_rate_32 s f N q).1 (o_X5_rate_32 s f N q).2 R = mW cI cO a (o_X5_rate s f N q).1 (o_X5_rate s f N q).2 R from by simp only [o_X5_rate, if_pos c_2]) ?_
    exact j_X5_rate_32 l D cI cO a R s f N q hN h4 h48 S hr hlk (N + 1) 0 _ _ _ (by omega) (by omega) (w.to (show mW cI cO a (upd (upd s 22 ((s 13) - 1)) 21 q) f R = mW cI cO a (upd (upd s 22 (s 13 - 1)) 21 q) (va_up f 9 (pfx 0 (f 1) (f 9))) R from m_f va_first.symm)) (lv_sub hl [1, 2, 0] rfl)
  · refine lv_iload_n S.1 S.2.1 dX5_rate_7 rfl (lv_at hl 1 rfl) ?_
    refine lv_aload_n S.1 S.2.1 dX5_rate_8 rfl (lv_at hl 0 rfl) ?_
    refine mg_21 S w lk_RX5_161 dX5_rate_9 ?_
    refine lv_icmp_ge (tgt := 66) S.1 S.2.1 dX5_rate_12 (by decide) (fun (c_3 : (s 21) ≤ q) => ?_) (fun (c_3 : ¬ ((s 21) ≤ q)) => ?_)
    · refine lv_aload_n S.1 S.2.1 dX5_rate_66 rfl (lv_at hl 0 rfl) ?_
      refine lv_iload_n S.1 S.2.1 dX5_rate_67 rfl (lv_at hl 1 rfl) ?_
      refine lv_aload_n S.1 S.2.1 dX5_rate_68 rfl (lv_at hl 0 rfl) ?_
      refine mg_21 S w lk_RX5_161 dX5_rate_69 ?_
      refine lv_icmp_le (tgt := 84) S.1 S.2.1 dX5_rate_72 (by decide) (fun (c_4 : q ≤ (s 21)) => ?_) (fun (c_4 : ¬ (q ≤ (s 21))) => ?_)
      · refine lv_iconst (v := 0) S.1 S.2.1 dX5_rate_84 (by decide) ?_
        refine mp_16 S w lk_RX5_101 dX5_rate_85 (fun H locs (w : Wd D (kT cI cO) (va_A _ _) _ _ (mW cI cO a (upd s 16 0) f R) H locs) => ?_)
        exact x_retv S w hr hlk dX5_rate_88 (show mW cI cO a (upd s 16 0) f R = mW cI cO a (o_X5_rate s f N q).1 (o_X5_rate s f N q).2 R from by simp only [o_X5_rate, if_neg c_2, if_pos c_3, if_pos c_4])
      · refine lv_aload_n S.1 S.2.1 dX5_rate_75 rfl (lv_at hl 0 rfl) ?_
        refine mg_16 S w lk_RX5_101 dX5_rate_76 ?_
        refine lv_iconst (v := 1) S.1 S.2.1 dX5_rate_79 (by decide) ?_
        refine lv_iadd S.1 S.2.1 dX5_rate_80 ?_
        refine lv_goto (tgt := 85) S.1 S.2.1 dX5_rate_81 (by decide) ?_
        refine mp_16 S w lk_RX5_101 dX5_rate_85 (fun H locs (w : Wd D (kT cI cO) (va_A _ _) _ _ (mW cI cO a (upd s 16 ((s 16) + 1)) f R) H locs) => ?_)
        exact x_retv S w hr hlk dX5_rate_88 (show mW cI cO a (upd s 16 ((s 16) + 1)) f R = mW cI cO a (o_X5_rate s f N q).1 (o_X5_rate s f N q).2 R from by simp only [o_X5_rate, if_neg c_2, if_pos c_3, if_neg c_4])
    · refine lv_aload_n S.1 S.2.1 dX5_rate_15 rfl (lv_at hl 0 rfl) ?_
      refine lv_aload_n S.1 S.2.1 dX5_rate_16 rfl (lv_at hl 0 rfl) ?_
      refine mg_13 S w lk_RX5_89 dX5_rate_17 ?_
      refine lv_iconst (v := 1) S.1 S.2.1 dX5_rate_20 (by decide) ?_
      refine lv_isub S.1 S.2.1 dX5_rate_21 ?_
      refine mp_22 S w lk_RX5_104 dX5_rate_22 (fun H locs (w : Wd D (kT cI cO) (va_A _ _) _ _ (mW cI cO a (upd s 22 ((s 13) - 1)) f R) H locs) => ?_)
      refine lv_aload_n S.1 S.2.1 dX5_rate_25 rfl (lv_at hl 0 rfl) ?_
      refine lv_iload_n S.1 S.2.1 dX5_rate_26 rfl (lv_at hl 1 rfl) ?_
      refine mp_21 S w lk_RX5_161 dX5_rate_27 (fun H locs (w : Wd D (kT cI cO) (va_A _ _) _ _ (mW cI cO a (upd (upd s 22 ((s 13) - 1)) 21 q) f R) H locs) => ?_)
      refine lv_iconst (v := 0) S.1 S.2.1 dX5_rate_30 (by decide) ?_
      refine lv_istore_n (lv' := [(2, .int 0), (0, .ref (a 0)), (1, .int q)]) S.1 S.2.1 dX5_rate_31 rfl hl (by decide) rfl (fun ls hl => ?_)
      refine x_tov  (show mW cI cO a (o_X5_rate_32 s f N q).1 (o_X5_rate_32 s f N q).2 R = mW cI cO a (o_X5_rate s f N q).1 (o_X5_rate s f N q).2 R from by simp only [o_X5_rate, if_neg c_2, if_neg c_3]) ?_
      exact j_X5_rate_32 l D cI cO a R s f N q hN h4 h48 S hr hlk (N + 1) 0 _ _ _ (by omega) (by omega) (w.to (show mW cI cO a (upd (upd s 22 ((s 13) - 1)) 21 q) f R = mW cI cO a (upd (upd s 22 (s 13 - 1)) 21 q) (va_up f 9 (pfx 0 (f 1) (f 9))) R from m_f va_first.symm)) (lv_sub hl [1, 2, 0] rfl)
theorem rt_s (s : Nat → Int32) (f : Nat → Nat → Int32) (N : Nat) (q : Int32) {i : Nat} (h : i ≠ 16 ∧ i ≠ 21 ∧ i ≠ 22) : (o_X5_rate s f N q).1 i = s i := by
  obtain ⟨h1, h2, h3⟩ := h
  unfold o_X5_rate o_X5_rate_32
  split
  · simp only [upd, h1, h2, h3, if_false]
  · split
    · split
      · simp only [upd, h1, if_false]
      · simp only [upd, h1, if_false]
    · simp only [upd, h1, h2, h3, if_false]
def o_X5_finish_129 (s : Nat → Int32) (f : Nat → Nat → Int32) (N : Nat) (K : Nat) (d : Nat) (b : Nat) (mm : Nat) (G : Nat) (v : Int32) : (Nat → Int32) × (Nat → Nat → Int32) := (upd (upd (upd (o_X5_rate (upd s 19 (nI (K + 1))) (feF f N v) N (nmF f N v N)).1 1 (((o_X5_rate (upd s 19 (nI (K + 1))) (feF f N v) N (nmF f N v N)).1 1) / 2)) 16 0) 15 (((o_X5_rate (upd s 19 (nI (K + 1))) (feF f N v) N (nmF f N v N)).1 15) + 1), va_up (o_X5_rate (upd s 19 (nI (K + 1))) (feF f N v) N (nmF f N v N)).2 1 (pfx N ((o_X5_rate (upd s 19 (nI (K + 1))) (feF f N v) N (nmF f N v N)).2 9) ((o_X5_rate (upd s 19 (nI (K + 1))) (feF f N v) N (nmF f N v N)).2 1)))
set_option maxHeartbeats 4000000 in
set_option maxRecDepth 100000 in
theorem j_X5_finish_129 {p : Program} {e : Env} {st : State} {m : MethodId} {args : Array Value} {below : List Frame} {meth : Method} {c : Code} {ws0 : va_W} {sz : Nat} (l : Launch) (D : va_G) (cI cO : ClassId) (a : Nat → Nat) (R : va_W) (s : Nat → Int32) (f : Nat → Nat → Int32) (N : Nat) (K : Nat) (d : Nat) (b : Nat) (mm : Nat) (G : Nat) (wt : Nat) (L : Nat) (hN : s 0 = nI N) (h4 : 4 ≤ N) (h48 : N ≤ 48) (hK : s 19 = nI K) (hK2 : K + 1 < 1000000) (hd : s 2 = nI d) (hd8 : d ≤ 8) (hb : s 6 = nI b) (hb1 : 1 ≤ b) (hb10 : b ≤ 10) (hm : s 4 = nI mm) (hm4 : mm ≤ 4) (hG : s 7 = nI G) (hG5 : G ≤ 5) (hw : s 3 = nI wt) (hw3 : wt ≤ 333) (hL : s 5 = nI L) (hL1 : 1 ≤ L) (hL6 : L ≤ 1000000) (S : CallFix p m c cX5_finish 4 st args wsL_law RX5) (hr : meth.sig.returnType = none) (hlk : meth.locks = false) : ∀ (n : Nat) (v : Int32) (i : Nat) (H : Heap) (locs : List Loc) (ls : Array Slot), N + 1 ≤ i + n → i ≤ N → Wd D (kT cI cO) (va_A ws0 sz) st.heap st (mW cI cO a (o_X5_rate (upd s 19 (nI (K + 1))) (feF f N v) N (nmF f N v N)).1 (va_up (o_X5_rate (upd s 19 (nI (K + 1))) (feF f N v) N (nmF f N v N)).2 1 (pfx i ((o_X5_rate (upd s 19 (nI (K + 1))) (feF f N v) N (nmF f N v N)).2 9) ((o_X5_rate (upd s 19 (nI (K + 1))) (feF f N v) N (nmF f N v N)).2 1))) R) H locs → lv_has ls 4 [(0, .ref (a 0)), (3, .int (nI i))] → W p l e { frames := 3, cells := 0, slots := 0, locals := 76 } st m args below meth c H locs 0 0 (MQ below (mQv D (kT cI cO) ws0 sz (mW cI cO a (o_X5_finish_129 s f N K d b mm G v).1 (o_X5_finish_129 s f N K d b mm G v).2 R)) args st 0 0 (va_A ws0 sz)) (F0 m 129 ls []) := by
  intro n
  induction n with
  | zero => intro v i H locs ls hfu hi w hl; exact absurd hfu (by omega)
  | succ n ih =>
    intro v i H locs ls hfu hi w hl
    refine lv_iload_n S.1 S.2.1 dX5_finish_129 rfl (lv_at hl 1 rfl) ?_
    refine lv_aload_n S.1 S.2.1 dX5_finish_130 rfl (lv_at hl 0 rfl) ?_
    refine mg_0 S w lk_RX5_47 dX5_finish_131 ?_
    refine x_eqi (x := (o_X5_rate (upd s 19 (nI (K + 1))) (feF f N v) N (nmF f N v N)).1 0) (y := nI N) ((rt_s _ _ _ _ (by decide)).trans hN) ?_
    refine lv_icmp_ge (tgt := 155) S.1 S.2.1 dX5_finish_134 (by decide) (fun (c_1 : (nI N) ≤ (nI i)) => ?_) (fun (c_1 : ¬ ((nI N) ≤ (nI i))) => ?_)
    · have he : i = N := by
        have := (nI_leI (a := N) (b := i) (by omega) (by omega)).mp c_1
        omega
      subst i
      refine lv_aload_n S.1 S.2.1 dX5_finish_155 rfl (lv_at hl 0 rfl) ?_
      refine lv_dup S.1 S.2.1 dX5_finish_156 rfl ?_
      refine mg_1 S w lk_RX5_51 dX5_finish_157 ?_
      refine lv_iconst (v := 2) S.1 S.2.1 dX5_finish_160 (by decide) ?_
      refine lv_idiv S.1 S.2.1 dX5_finish_161 (by decide) ?_
      refine mp_1 S w lk_RX5_51 dX5_finish_162 (fun H locs (w : Wd D (kT cI cO) (va_A _ _) _ _ (mW cI cO a (upd (o_X5_rate (upd s 19 (nI (K + 1))) (feF f N v) N (nmF f N v N)).1 1 (((o_X5_rate (upd s 19 (nI (K + 1))) (feF f N v) N (nmF f N v N)).1 1) / 2)) (va_up (o_X5_rate (upd s 19 (nI (K + 1))) (feF f N v) N (nmF f N v N)).2 1 (pfx N ((o_X5_rate (upd s 19 (nI (K + 1))) (feF f N v) N (nmF f N v N)).2 9) ((o_X5_rate (upd s 19 (nI (K + 1))) (feF f N v) N (nmF f N v N)).2 1))) R) H locs) => ?_)
      refine lv_aload_n S.1 S.2.1 dX5_finish_165 rfl (lv_at hl 0 rfl) ?_
      refine lv_iconst (v := 0) S.1 S.2.1 dX5_finish_166 (by decide) ?_
      refine mp_16 S w lk_RX5_101 dX5_finish_167 (fun H locs (w : Wd D (kT cI cO) (va_A _ _) _ _ (mW cI cO a (upd (upd (o_X5_rate (upd s 19 (nI (K + 1))) (feF f N v) N (nmF f N v N)).1 1 (((o_X5_rate (upd s 19 (nI (K + 1))) (feF f N v) N (nmF f N v N)).1 1) / 2)) 16 0) (va_up (o_X5_rate (upd s 19 (nI (K + 1))) (feF f N v) N (nmF f N v N)).2 1 (pfx N ((o_X5_rate (upd s 19 (nI (K + 1))) (feF f N v) N (nmF f N v N)).2 9) ((o_X5_rate (upd s 19 (nI (K + 1))) (feF f N v) N (nmF f N v N)).2 1))) R) H locs) => ?_)
      refine lv_aload_n S.1 S.2.1 dX5_finish_170 rfl (lv_at hl 0 rfl) ?_
      refine lv_dup S.1 S.2.1 dX5_finish_171 rfl ?_
      refine mg_15 S w lk_RX5_98 dX5_finish_172 ?_
      refine x_eqi (x := (upd (upd (o_X5_rate (upd s 19 (nI (K + 1))) (feF f N v) N (nmF f N v N)).1 1 (((o_X5_rate (upd s 19 (nI (K + 1))) (feF f N v) N (nmF f N v N)).1 1) / 2)) 16 0) 15) (y := (o_X5_rate (upd s 19 (nI (K + 1))) (feF f N v) N (nmF f N v N)).1 15) rfl ?_
      refine lv_iconst (v := 1) S.1 S.2.1 dX5_finish_175 (by decide) ?_
      refine lv_iadd S.1 S.2.1 dX5_finish_176 ?_
      refine mp_15 S w lk_RX5_98 dX5_finish_177 (fun H locs (w : Wd D (kT cI cO) (va_A _ _) _ _ (mW cI cO a (upd (upd (upd (o_X5_rate (upd s 19 (nI (K + 1))) (feF f N v) N (nmF f N v N)).1 1 (((o_X5_rate (upd s 19 (nI (K + 1))) (feF f N v) N (nmF f N v N)).1 1) / 2)) 16 0) 15 (((o_X5_rate (upd s 19 (nI (K + 1))) (feF f N v) N (nmF f N v N)).1 15) + 1)) (va_up (o_X5_rate (upd s 19 (nI (K + 1))) (feF f N v) N (nmF f N v N)).2 1 (pfx N ((o_X5_rate (upd s 19 (nI (K + 1))) (feF f N v) N (nmF f N v N)).2 9) ((o_X5_rate (upd s 19 (nI (K + 1))) (feF f N v) N (nmF f N v N)).2 1))) R) H locs) => ?_)
      refine lv_goto (tgt := 192) S.1 S.2.1 dX5_finish_180 (by decide) ?_
      exact x_retv S w hr hlk dX5_finish_192 (show mW cI cO a (upd (upd (upd (o_X5_rate (upd s 19 (nI (K + 1))) (feF f N v) N (nmF f N v N)).1 1 (((o_X5_rate (upd s 19 (nI (K + 1))) (feF f N v) N (nmF f N v N)).1 1) / 2)) 16 0) 15 (((o_X5_rate (upd s 19 (nI (K + 1))) (feF f N v) N (nmF f N v N)).1 15) + 1)) (va_up (o_X5_rate (upd s 19 (nI (K + 1))) (feF f N v) N (nmF f N v N)).2 1 (pfx N ((o_X5_rate (upd s 19 (nI (K + 1))) (feF f N v) N (nmF f N v N)).2 9) ((o_X5_rate (upd s 19 (nI (K + 1))) (feF f N v) N (nmF f N v N)).2 1))) R = mW cI cO a (o_X5_finish_129 s f N K d b mm G v).1 (o_X5_finish_129 s f N K d b mm G v).2 R from by simp only [o_X5_finish_129])
    · have hlt : i < N := Nat.lt_of_not_le (fun z => c_1 (nI_le z (by omega)))
      refine lv_aload_n S.1 S.2.1 dX5_finish_137 rfl (lv_at hl 0 rfl) ?_
      refine mr_2 S w lk_RX5_13 dX5_finish_138 ?_
      refine lv_iload_n S.1 S.2.1 dX5_finish_141 rfl (lv_at hl 1 rfl) ?_
      refine lv_aload_n S.1 S.2.1 dX5_finish_142 rfl (lv_at hl 0 rfl) ?_
      refine mr_10 S w lk_RX5_37 dX5_finish_143 ?_
      refine lv_iload_n S.1 S.2.1 dX5_finish_146 rfl (lv_at hl 1 rfl) ?_
      refine x_iald S w 10 0 (g := (o_X5_rate (upd s 19 (nI (K + 1))) (feF f N v) N (nmF f N v N)).2 9) (v := ((o_X5_rate (upd s 19 (nI (K + 1))) (feF f N v) N (nmF f N v N)).2 9) i) i (by omega) (rfl) (Nat.le_of_ble_eq_true rfl) (mc_10) rfl (rfl) dX5_finish_147 ?_
      refine x_iast S w 2 0 (g := pfx i ((o_X5_rate (upd s 19 (nI (K + 1))) (feF f N v) N (nmF f N v N)).2 9) ((o_X5_rate (upd s 19 (nI (K + 1))) (feF f N v) N (nmF f N v N)).2 1)) i (by omega) (rfl) (Nat.le_of_ble_eq_true rfl) (mc_2) rfl (ms_1) dX5_finish_148 (fun H locs (w : Wd D (kT cI cO) (va_A _ _) _ _ (mW cI cO a (o_X5_rate (upd s 19 (nI (K + 1))) (feF f N v) N (nmF f N v N)).1 (va_up (va_up (o_X5_rate (upd s 19 (nI (K + 1))) (feF f N v) N (nmF f N v N)).2 1 (pfx i ((o_X5_rate (upd s 19 (nI (K + 1))) (feF f N v) N (nmF f N v N)).2 9) ((o_X5_rate (upd s 19 (nI (K + 1))) (feF f N v) N (nmF f N v N)).2 1))) 1 (upd (pfx i ((o_X5_rate (upd s 19 (nI (K + 1))) (feF f N v) N (nmF f N v N)).2 9) ((o_X5_rate (upd s 19 (nI (K + 1))) (feF f N v) N (nmF f N v N)).2 1)) i (((o_X5_rate (upd s 19 (nI (K + 1))) (feF f N v) N (nmF f N v N)).2 9) i))) R) H locs) => ?_)
      have w := w.to (show mW cI cO a (o_X5_rate (upd s 19 (nI (K + 1))) (feF f N v) N (nmF f N v N)).1 (va_up (va_up (o_X5_rate (upd s 19 (nI (K + 1))) (feF f N v) N (nmF f N v N)).2 1 (pfx i ((o_X5_rate (upd s 19 (nI (K + 1))) (feF f N v) N (nmF f N v N)).2 9) ((o_X5_rate (upd s 19 (nI (K + 1))) (feF f N v) N (nmF f N v N)).2 1))) 1 (upd (pfx i ((o_X5_rate (upd s 19 (nI (K + 1))) (feF f N v) N (nmF f N v N)).2 9) ((o_X5_rate (upd s 19 (nI (K + 1))) (feF f N v) N (nmF f N v N)).2 1)) i (((o_X5_rate (upd s 19 (nI (K + 1))) (feF f N v) N (nmF f N v N)).2 9) i))) R = mW cI cO a (o_X5_rate (upd s 19 (nI (K + 1))) (feF f N v) N (nmF f N v N)).1 (va_up (o_X5_rate (upd s 19 (nI (K + 1))) (feF f N v) N (nmF f N v N)).2 1 (pfx (i + 1) ((o_X5_rate (upd s 19 (nI (K + 1))) (feF f N v) N (nmF f N v N)).2 9) ((o_X5_rate (upd s 19 (nI (K + 1))) (feF f N v) N (nmF f N v N)).2 1))) R from m_f (va_step' rfl))
      refine lv_iinc (v := nI (i + 1)) (lv' := [(3, .int (nI (i + 1))), (0, .ref (a 0))]) S.1 S.2.1 dX5_finish_149 hl (k := 1) rfl (x_inc _) (by decide) rfl (fun ls hl => ?_)
      refine lv_goto (tgt := 129) S.1 S.2.1 dX5_finish_152 (by decide) ?_
      exact ih v (i + 1) _ _ _ (by omega) (by omega) w (lv_sub hl [1, 0] rfl)
def o_X5_finish_13 (s : Nat → Int32) (f : Nat → Nat → Int32) (N : Nat) (K : Nat) (d : Nat) (b : Nat) (mm : Nat) (G : Nat) (v : Int32) : (Nat → Int32) × (Nat → Nat → Int32) := if (s 10) = 0 then ((o_X5_rate (upd s 19 (nI (K + 1))) (feF f N v) N (nmF f N v N)).1, o_X5_correct (o_X5_rate (upd s 19 (nI (K + 1))) (feF f N v) N (nmF f N v N)).1 (o_X5_rate (upd s 19 (nI (K + 1))) (feF f N v) N (nmF f N v N)).2 N N d b mm 0) else if ((o_X5_rate (upd s 19 (nI (K + 1))) (feF f N v) N (nmF f N v N)).1 16) < 2 then ((o_X5_rate (upd s 19 (nI (K + 1))) (feF f N v) N (nmF f N v N)).1, o_X5_correct (o_X5_rate (upd s 19 (nI (K + 1))) (feF f N v) N (nmF f N v N)).1 (o_X5_rate (upd s 19 (nI (K + 1))) (feF f N v) N (nmF f N v N)).2 N N d b mm 0) else o_X5_finish_129 s f N K d b mm G v
set_option maxHeartbeats 4000000 in
set_option maxRecDepth 100000 in
theorem j_X5_finish_13 {p : Program} {e : Env} {st : State} {m : MethodId} {args : Array Value} {below : List Frame} {meth : Method} {c : Code} {ws0 : va_W} {sz : Nat} (l : Launch) (D : va_G) (cI cO : ClassId) (a : Nat → Nat) (R : va_W) (s : Nat → Int32) (f : Nat → Nat → Int32) (N : Nat) (K : Nat) (d : Nat) (b : Nat) (mm : Nat) (G : Nat) (wt : Nat) (L : Nat) (hN : s 0 = nI N) (h4 : 4 ≤ N) (h48 : N ≤ 48) (hK : s 19 = nI K) (hK2 : K + 1 < 1000000) (hd : s 2 = nI d) (hd8 : d ≤ 8) (hb : s 6 = nI b) (hb1 : 1 ≤ b) (hb10 : b ≤ 10) (hm : s 4 = nI mm) (hm4 : mm ≤ 4) (hG : s 7 = nI G) (hG5 : G ≤ 5) (hw : s 3 = nI wt) (hw3 : wt ≤ 333) (hL : s 5 = nI L) (hL1 : 1 ≤ L) (hL6 : L ≤ 1000000) (S : CallFix p m c cX5_finish 4 st args wsL_law RX5) (hr : meth.sig.returnType = none) (hlk : meth.locks = false) : ∀ (n : Nat) (v : Int32) (i : Nat) (H : Heap) (locs : List Loc) (ls : Array Slot), N + 1 ≤ i + n → i ≤ N → Wd D (kT cI cO) (va_A ws0 sz) st.heap st (mW cI cO a s (fiF f N v i i i) R) H locs → lv_has ls 4 [(0, .ref (a 0)), (1, .int v), (2, .int (nmF f N v i)), (3, .int (nI i))] → W p l e { frames := 3, cells := 0, slots := 0, locals := 76 } st m args below meth c H locs 0 0 (MQ below (mQv D (kT cI cO) ws0 sz (mW cI cO a (o_X5_finish_13 s f N K d b mm G v).1 (o_X5_finish_13 s f N K d b mm G v).2 R)) args st 0 0 (va_A ws0 sz)) (F0 m 13 ls []) := by
  intro n
  induction n with
  | zero => intro v i H locs ls hfu hi w hl; exact absurd hfu (by omega)
  | succ n ih =>
    intro v i H locs ls hfu hi w hl
    refine lv_iload_n S.1 S.2.1 dX5_finish_13 rfl (lv_at hl 3 rfl) ?_
    refine lv_aload_n S.1 S.2.1 dX5_finish_14 rfl (lv_at hl 0 rfl) ?_
    refine mg_0 S w lk_RX5_47 dX5_finish_15 ?_
    refine x_eqi (x := s 0) (y := nI N) (hN) ?_
    refine lv_icmp_ge (tgt := 83) S.1 S.2.1 dX5_finish_18 (by decide) (fun (c_2 : (nI N) ≤ (nI i)) => ?_) (fun (c_2 : ¬ ((nI N) ≤ (nI i))) => ?_)
    · have he : i = N := by
        have := (nI_leI (a := N) (b := i) (by omega) (by omega)).mp c_2
        omega
      subst i
      refine lv_aload_n S.1 S.2.1 dX5_finish_83 rfl (lv_at hl 0 rfl) ?_
      refine mr_8 S w lk_RX5_28 dX5_finish_84 ?_
      refine lv_iconst (v := 0) S.1 S.2.1 dX5_finish_87 (by decide) ?_
      refine lv_iload_n S.1 S.2.1 dX5_finish_88 rfl (lv_at hl 2 rfl) ?_
      refine x_iast S w 8 0 (g := (fiF f N v N N N) 7) 0 (by decide) (rfl) (Nat.le_of_ble_eq_true rfl) (mc_8) rfl (ms_7) dX5_finish_89 (fun H locs (w : Wd D (kT cI cO) (va_A _ _) _ _ (mW cI cO a s (va_up (fiF f N v N N N) 7 (upd ((fiF f N v N N N) 7) 0 (nmF f N v N))) R) H locs) => ?_)
      refine lv_aload_n S.1 S.2.1 dX5_finish_90 rfl (lv_at hl 0 rfl) ?_
      refine mr_9 S w lk_RX5_31 dX5_finish_91 ?_
      refine lv_iconst (v := 0) S.1 S.2.1 dX5_finish_94 (by decide) ?_
      refine lv_iload_n S.1 S.2.1 dX5_finish_95 rfl (lv_at hl 1 rfl) ?_
      refine x_iast S w 9 0 (g := (fiF f N v N N N) 8) 0 (by decide) (rfl) (Nat.le_of_ble_eq_true rfl) (mc_9) rfl (ms_8) dX5_finish_96 (fun H locs (w : Wd D (kT cI cO) (va_A _ _) _ _ (mW cI cO a s (va_up (va_up (fiF f N v N N N) 7 (upd ((fiF f N v N N N) 7) 0 (nmF f N v N))) 8 (upd ((fiF f N v N N N) 8) 0 v)) R) H locs) => ?_)
      have w := w.to (show mW cI cO a s (va_up (va_up (fiF f N v N N N) 7 (upd ((fiF f N v N N N) 7) 0 (nmF f N v N))) 8 (upd ((fiF f N v N N N) 8) 0 v)) R = mW cI cO a s (feF f N v) R from rfl)
      refine lv_aload_n S.1 S.2.1 dX5_finish_97 rfl (lv_at hl 0 rfl) ?_
      refine lv_dup S.1 S.2.1 dX5_finish_98 rfl ?_
      refine mg_19 S w lk_RX5_92 dX5_finish_99 ?_
      refine x_eqi (x := s 19) (y := nI K) (hK) ?_
      refine lv_iconst (v := 1) S.1 S.2.1 dX5_finish_102 (by decide) ?_
      refine lv_iadd S.1 S.2.1 dX5_finish_103 ?_
      refine x_eqi (x := (nI K) + 1) (y := nI (K + 1)) (nI_1 K) ?_
      refine mp_19 S w lk_RX5_92 dX5_finish_104 (fun H locs (w : Wd D (kT cI cO) (va_A _ _) _ _ (mW cI cO a (upd s 19 (nI (K + 1))) (feF f N v) R) H locs) => ?_)
      refine lv_aload_n S.1 S.2.1 dX5_finish_107 rfl (lv_at hl 0 rfl) ?_
      refine lv_iload_n S.1 S.2.1 dX5_finish_108 rfl (lv_at hl 2 rfl) ?_
      refine x_Vv (As := [.int (nmF f N v N)]) (rest := []) S w (goodV lk_RX5_154 li_X5_rate ls_X5_rate ln_RX5 lc_X5_rate) hV_X5_rate (k_X5_rate l D cI cO a R (upd s 19 (nI (K + 1))) (feF f N v) N (nmF f N v N) hN h4 h48) rfl 0 5 rfl rfl mc_0 ⟨(Nat.le_of_ble_eq_true rfl), (Nat.le_of_ble_eq_true rfl)⟩ ⟨rfl, rfl⟩ hl.1 rfl (Nat.le_of_ble_eq_true rfl) ⟨Nat.zero_le _, Nat.zero_le _⟩ dX5_finish_109 (fun H locs (w : Wd D (kT cI cO) (va_A _ _) _ _ (mW cI cO a (o_X5_rate (upd s 19 (nI (K + 1))) (feF f N v) N (nmF f N v N)).1 (o_X5_rate (upd s 19 (nI (K + 1))) (feF f N v) N (nmF f N v N)).2 R) H locs) => ?_)
      refine lv_aload_n S.1 S.2.1 dX5_finish_112 rfl (lv_at hl 0 rfl) ?_
      refine mg_10 S w lk_RX5_79 dX5_finish_113 ?_
      refine x_eqi (x := (o_X5_rate (upd s 19 (nI (K + 1))) (feF f N v) N (nmF f N v N)).1 10) (y := s 10) (rt_s _ _ _ _ (by decide)) ?_
      refine lv_if_eq (tgt := 183) S.1 S.2.1 dX5_finish_116 (by decide) (fun (c_3 : (s 10) = 0) => ?_) (fun (c_3 : ¬ ((s 10) = 0)) => ?_)
      · refine lv_aload_n S.1 S.2.1 dX5_finish_183 rfl (lv_at hl 0 rfl) ?_
        refine lv_aload_n S.1 S.2.1 dX5_finish_184 rfl (lv_at hl 0 rfl) ?_
        refine mg_0 S w lk_RX5_47 dX5_finish_185 ?_
        refine x_eqi (x := (o_X5_rate (upd s 19 (nI (K + 1))) (feF f N v) N (nmF f N v N)).1 0) (y := nI N) ((rt_s _ _ _ _ (by decide)).trans hN) ?_
        refine lv_iconst (v := 0) S.1 S.2.1 dX5_finish_188 (by decide) ?_
        refine x_Vv (As := [.int (nI N), .int 0]) (rest := []) S w (goodV lk_RX5_157 li_X5_correct ls_X5_correct ln_RX5 lc_X5_correct) hV_X5_correct (k_X5_correct l D cI cO a R (o_X5_rate (upd s 19 (nI (K + 1))) (feF f N v) N (nmF f N v N)).1 (o_X5_rate (upd s 19 (nI (K + 1))) (feF f N v) N (nmF f N v N)).2 N N d b mm wt L 0 ((rt_s _ _ _ _ (by decide)).trans hN : (o_X5_rate (upd s 19 (nI (K + 1))) (feF f N v) N (nmF f N v N)).1 0 = nI N) h4 h48 ((rt_s _ _ _ _ (by decide)).trans hd : (o_X5_rate (upd s 19 (nI (K + 1))) (feF f N v) N (nmF f N v N)).1 2 = nI d) hd8 ((rt_s _ _ _ _ (by decide)).trans hb : (o_X5_rate (upd s 19 (nI (K + 1))) (feF f N v) N (nmF f N v N)).1 6 = nI b) hb1 hb10 ((rt_s _ _ _ _ (by decide)).trans hm : (o_X5_rate (upd s 19 (nI (K + 1))) (feF f N v) N (nmF f N v N)).1 4 = nI mm) hm4 ((rt_s _ _ _ _ (by decide)).trans hw : (o_X5_rate (upd s 19 (nI (K + 1))) (feF f N v) N (nmF f N v N)).1 3 = nI wt) hw3 ((rt_s _ _ _ _ (by decide)).trans hL : (o_X5_rate (upd s 19 (nI (K + 1))) (feF f N v) N (nmF f N v N)).1 5 = nI L) hL1 hL6 (Nat.le_refl N)) rfl 0 5 rfl rfl mc_0 ⟨(Nat.le_of_ble_eq_true rfl), (Nat.le_of_ble_eq_true rfl)⟩ ⟨rfl, rfl⟩ hl.1 rfl (Nat.le_of_ble_eq_true rfl) ⟨Nat.zero_le _, Nat.zero_le _⟩ dX5_finish_189 (fun H locs (w : Wd D (kT cI cO) (va_A _ _) _ _ (mW cI cO a (o_X5_rate (upd s 19 (nI (K + 1))) (feF f N v) N (nmF f N v N)).1 (o_X5_correct (o_X5_rate (upd s 19 (nI (K + 1))) (feF f N v) N (nmF f N v N)).1 (o_X5_rate (upd s 19 (nI (K + 1))) (feF f N v) N (nmF f N v N)).2 N N d b mm 0) R) H locs) => ?_)
        exact x_retv S w hr hlk dX5_finish_192 (show mW cI cO a (o_X5_rate (upd s 19 (nI (K + 1))) (feF f N v) N (nmF f N v N)).1 (o_X5_correct (o_X5_rate (upd s 19 (nI (K + 1))) (feF f N v) N (nmF f N v N)).1 (o_X5_rate (upd s 19 (nI (K + 1))) (feF f N v) N (nmF f N v N)).2 N N d b mm 0) R = mW cI cO a (o_X5_finish_13 s f N K d b mm G v).1 (o_X5_finish_13 s f N K d b mm G v).2 R from by simp only [o_X5_finish_13, if_pos c_3])
      · refine lv_aload_n S.1 S.2.1 dX5_finish_119 rfl (lv_at hl 0 rfl) ?_
        refine mg_16 S w lk_RX5_101 dX5_finish_120 ?_
        refine lv_iconst (v := 2) S.1 S.2.1 dX5_finish_123 (by decide) ?_
        refine lv_icmp_lt (tgt := 183) S.1 S.2.1 dX5_finish_124 (by decide) (fun (c_4 : ((o_X5_rate (upd s 19 (nI (K + 1))) (feF f N v) N (nmF f N v N)).1 16) < 2) => ?_) (fun (c_4 : ¬ (((o_X5_rate (upd s 19 (nI (K + 1))) (feF f N v) N (nmF f N v N)).1 16) < 2)) => ?_)
        · refine lv_aload_n S.1 S.2.1 dX5_finish_183 rfl (lv_at hl 0 rfl) ?_
          refine lv_aload_n S.1 S.2.1 dX5_finish_184 rfl (lv_at hl 0 rfl) ?_
          refine mg_0 S w lk_RX5_47 dX5_finish_185 ?_
          refine x_eqi (x := (o_X5_rate (upd s 19 (nI (K + 1))) (feF f N v) N (nmF f N v N)).1 0) (y := nI N) ((rt_s _ _ _ _ (by decide)).trans hN) ?_
          refine lv_iconst (v := 0) S.1 S.2.1 dX5_finish_188 (by decide) ?_
          refine x_Vv (As := [.int (nI N), .int 0]) (rest := []) S w (goodV lk_RX5_157 li_X5_correct ls_X5_correct ln_RX5 lc_X5_correct) hV_X5_correct (k_X5_correct l D cI cO a R (o_X5_rate (upd s 19 (nI (K + 1))) (feF f N v) N (nmF f N v N)).1 (o_X5_rate (upd s 19 (nI (K + 1))) (feF f N v) N (nmF f N v N)).2 N N d b mm wt L 0 ((rt_s _ _ _ _ (by decide)).trans hN : (o_X5_rate (upd s 19 (nI (K + 1))) (feF f N v) N (nmF f N v N)).1 0 = nI N) h4 h48 ((rt_s _ _ _ _ (by decide)).trans hd : (o_X5_rate (upd s 19 (nI (K + 1))) (feF f N v) N (nmF f N v N)).1 2 = nI d) hd8 ((rt_s _ _ _ _ (by decide)).trans hb : (o_X5_rate (upd s 19 (nI (K + 1))) (feF f N v) N (nmF f N v N)).1 6 = nI b) hb1 hb10 ((rt_s _ _ _ _ (by decide)).trans hm : (o_X5_rate (upd s 19 (nI (K + 1))) (feF f N v) N (nmF f N v N)).1 4 = nI mm) hm4 ((rt_s _ _ _ _ (by decide)).trans hw : (o_X5_rate (upd s 19 (nI (K + 1))) (feF f N v) N (nmF f N v N)).1 3 = nI wt) hw3 ((rt_s _ _ _ _ (by decide)).trans hL : (o_X5_rate (upd s 19 (nI (K + 1))) (feF f N v) N (nmF f N v N)).1 5 = nI L) hL1 hL6 (Nat.le_refl N)) rfl 0 5 rfl rfl mc_0 ⟨(Nat.le_of_ble_eq_true rfl), (Nat.le_of_ble_eq_true rfl)⟩ ⟨rfl, rfl⟩ hl.1 rfl (Nat.le_of_ble_eq_true rfl) ⟨Nat.zero_le _, Nat.zero_le _⟩ dX5_finish_189 (fun H locs (w : Wd D (kT cI cO) (va_A _ _) _ _ (mW cI cO a (o_X5_rate (upd s 19 (nI (K + 1))) (feF f N v) N (nmF f N v N)).1 (o_X5_correct (o_X5_rate (upd s 19 (nI (K + 1))) (feF f N v) N (nmF f N v N)).1 (o_X5_rate (upd s 19 (nI (K + 1))) (feF f N v) N (nmF f N v N)).2 N N d b mm 0) R) H locs) => ?_)
          exact x_retv S w hr hlk dX5_finish_192 (show mW cI cO a (o_X5_rate (upd s 19 (nI (K + 1))) (feF f N v) N (nmF f N v N)).1 (o_X5_correct (o_X5_rate (upd s 19 (nI (K + 1))) (feF f N v) N (nmF f N v N)).1 (o_X5_rate (upd s 19 (nI (K + 1))) (feF f N v) N (nmF f N v N)).2 N N d b mm 0) R = mW cI cO a (o_X5_finish_13 s f N K d b mm G v).1 (o_X5_finish_13 s f N K d b mm G v).2 R from by simp only [o_X5_finish_13, if_neg c_3, if_pos c_4])
        · refine lv_iconst (v := 0) S.1 S.2.1 dX5_finish_127 (by decide) ?_
          refine lv_istore_n (lv' := [(3, .int 0), (0, .ref (a 0)), (1, .int v), (2, .int (nmF f N v N))]) S.1 S.2.1 dX5_finish_128 rfl hl (by decide) rfl (fun ls hl => ?_)
          refine x_tov  (show mW cI cO a (o_X5_finish_129 s f N K d b mm G v).1 (o_X5_finish_129 s f N K d b mm G v).2 R = mW cI cO a (o_X5_finish_13 s f N K d b mm G v).1 (o_X5_finish_13 s f N K d b mm G v).2 R from by simp only [o_X5_finish_13, if_neg c_3, if_neg c_4]) ?_
          exact j_X5_finish_129 l D cI cO a R s f N K d b mm G wt L hN h4 h48 hK hK2 hd hd8 hb hb1 hb10 hm hm4 hG hG5 hw hw3 hL hL1 hL6 S hr hlk (N + 1) v 0 _ _ _ (by omega) (by omega) (w.to (show mW cI cO a (o_X5_rate (upd s 19 (nI (K + 1))) (feF f N v) N (nmF f N v N)).1 (o_X5_rate (upd s 19 (nI (K + 1))) (feF f N v) N (nmF f N v N)).2 R = mW cI cO a (o_X5_rate (upd s 19 (nI (K + 1))) (feF f N v) N (nmF f N v N)).1 (va_up (o_X5_rate (upd s 19 (nI (K + 1))) (feF f N v) N (nmF f N v N)).2 1 (pfx 0 ((o_X5_rate (upd s 19 (nI (K + 1))) (feF f N v) N (nmF f N v N)).2 9) ((o_X5_rate (upd s 19 (nI (K + 1))) (feF f N v) N (nmF f N v N)).2 1))) R from m_f va_first.symm)) (lv_sub hl [1, 0] rfl)
    · have hlt : i < N := Nat.lt_of_not_le (fun z => c_2 (nI_le z (by omega)))
      refine lv_aload_n S.1 S.2.1 dX5_finish_21 rfl (lv_at hl 0 rfl) ?_
      refine mr_5 S w lk_RX5_34 dX5_finish_22 ?_
      refine lv_iload_n S.1 S.2.1 dX5_finish_25 rfl (lv_at hl 3 rfl) ?_
      refine lv_aload_n S.1 S.2.1 dX5_finish_26 rfl (lv_at hl 0 rfl) ?_
      refine lv_iload_n S.1 S.2.1 dX5_finish_27 rfl (lv_at hl 3 rfl) ?_
      refine lv_iload_n S.1 S.2.1 dX5_finish_28 rfl (lv_at hl 1 rfl) ?_
      refine lv_iadd S.1 S.2.1 dX5_finish_29 ?_
      refine x_Vi (As := [.int ((nI i) + v)]) (rest := [.int (nI i), .ref (a 5)]) S w (goodV lk_RX5_136 li_X5_rawAt ls_X5_rawAt ln_RX5 lc_X5_rawAt) hV_X5_rawAt (k_X5_rawAt l D cI cO a R s (fiF f N v i i i) N ((nI i) + v) hN h4 h48) rfl 0 5 rfl rfl mc_0 ⟨(Nat.le_of_ble_eq_true rfl), (Nat.le_of_ble_eq_true rfl)⟩ ⟨rfl, rfl⟩ hl.1 rfl (Nat.le_of_ble_eq_true rfl) ⟨Nat.zero_le _, Nat.zero_le _⟩ dX5_finish_30 (fun H locs (w : Wd D (kT cI cO) (va_A _ _) _ _ (mW cI cO a s (fiF f N v i i i) R) H locs) => ?_)
      refine x_eqi (x := o_X5_rawAt s (fiF f N v i i i) N ((nI i) + v)) (y := (fiF f N v i i i) 3 (rix N ((nI i) + v))) rfl ?_
      refine x_eqi (x := (fiF f N v i i i) 3 (rix N ((nI i) + v))) (y := alF f N v i) (rfl) ?_
      refine x_iast S w 5 0 (g := (fiF f N v i i i) 4) i (by omega) (rfl) (Nat.le_of_ble_eq_true rfl) (mc_5) rfl (ms_4) dX5_finish_33 (fun H locs (w : Wd D (kT cI cO) (va_A _ _) _ _ (mW cI cO a s (va_up (fiF f N v i i i) 4 (upd ((fiF f N v i i i) 4) i (alF f N v i))) R) H locs) => ?_)
      have w := w.to (show mW cI cO a s (va_up (fiF f N v i i i) 4 (upd ((fiF f N v i i i) 4) i (alF f N v i))) R = mW cI cO a s (fiF f N v (i + 1) i i) R from m_f (fi_4 rfl))
      refine lv_aload_n S.1 S.2.1 dX5_finish_34 rfl (lv_at hl 0 rfl) ?_
      refine mr_6 S w lk_RX5_19 dX5_finish_35 ?_
      refine lv_iload_n S.1 S.2.1 dX5_finish_38 rfl (lv_at hl 3 rfl) ?_
      refine lv_aload_n S.1 S.2.1 dX5_finish_39 rfl (lv_at hl 0 rfl) ?_
      refine mr_1 S w lk_RX5_7 dX5_finish_40 ?_
      refine lv_iload_n S.1 S.2.1 dX5_finish_43 rfl (lv_at hl 3 rfl) ?_
      refine x_iald S w 1 0 (g := (fiF f N v (i + 1) i i) 0) (v := f 0 i) i (by omega) (rfl) (Nat.le_of_ble_eq_true rfl) (mc_1) rfl (rfl) dX5_finish_44 ?_
      refine lv_aload_n S.1 S.2.1 dX5_finish_45 rfl (lv_at hl 0 rfl) ?_
      refine mr_5 S w lk_RX5_34 dX5_finish_46 ?_
      refine lv_iload_n S.1 S.2.1 dX5_finish_49 rfl (lv_at hl 3 rfl) ?_
      refine x_iald S w 5 0 (g := (fiF f N v (i + 1) i i) 4) (v := alF f N v i) i (by omega) (rfl) (Nat.le_of_ble_eq_true rfl) (mc_5) rfl (pfx_lt _ _ (Nat.lt_succ_self i)) dX5_finish_50 ?_
      refine lv_isub S.1 S.2.1 dX5_finish_51 ?_
      refine x_iast S w 6 0 (g := (fiF f N v (i + 1) i i) 5) i (by omega) (rfl) (Nat.le_of_ble_eq_true rfl) (mc_6) rfl (ms_5) dX5_finish_52 (fun H locs (w : Wd D (kT cI cO) (va_A _ _) _ _ (mW cI cO a s (va_up (fiF f N v (i + 1) i i) 5 (upd ((fiF f N v (i + 1) i i) 5) i ((f 0 i) - (alF f N v i)))) R) H locs) => ?_)
      have w := w.to (show mW cI cO a s (va_up (fiF f N v (i + 1) i i) 5 (upd ((fiF f N v (i + 1) i i) 5) i ((f 0 i) - (alF f N v i)))) R = mW cI cO a s (fiF f N v (i + 1) (i + 1) i) R from m_f (fi_5 rfl))
      refine lv_aload_n S.1 S.2.1 dX5_finish_53 rfl (lv_at hl 0 rfl) ?_
      refine mr_11 S w lk_RX5_25 dX5_finish_54 ?_
      refine lv_iload_n S.1 S.2.1 dX5_finish_57 rfl (lv_at hl 3 rfl) ?_
      refine lv_aload_n S.1 S.2.1 dX5_finish_58 rfl (lv_at hl 0 rfl) ?_
      refine mr_6 S w lk_RX5_19 dX5_finish_59 ?_
      refine lv_iload_n S.1 S.2.1 dX5_finish_62 rfl (lv_at hl 3 rfl) ?_
      refine x_iald S w 6 0 (g := (fiF f N v (i + 1) (i + 1) i) 5) (v := eaF f N v i) i (by omega) (rfl) (Nat.le_of_ble_eq_true rfl) (mc_6) rfl (pfx_lt _ _ (Nat.lt_succ_self i)) dX5_finish_63 ?_
      refine x_iast S w 11 0 (g := (fiF f N v (i + 1) (i + 1) i) 10) i (by omega) (rfl) (Nat.le_of_ble_eq_true rfl) (mc_11) rfl (ms_10) dX5_finish_64 (fun H locs (w : Wd D (kT cI cO) (va_A _ _) _ _ (mW cI cO a s (va_up (fiF f N v (i + 1) (i + 1) i) 10 (upd ((fiF f N v (i + 1) (i + 1) i) 10) i (eaF f N v i))) R) H locs) => ?_)
      have w := w.to (show mW cI cO a s (va_up (fiF f N v (i + 1) (i + 1) i) 10 (upd ((fiF f N v (i + 1) (i + 1) i) 10) i (eaF f N v i))) R = mW cI cO a s (fiF f N v (i + 1) (i + 1) (i + 1)) R from m_f (fi_10 rfl))
      refine lv_iload_n S.1 S.2.1 dX5_finish_65 rfl (lv_at hl 2 rfl) ?_
      refine lv_aload_n S.1 S.2.1 dX5_finish_66 rfl (lv_at hl 0 rfl) ?_
      refine mr_6 S w lk_RX5_19 dX5_finish_67 ?_
      refine lv_iload_n S.1 S.2.1 dX5_finish_70 rfl (lv_at hl 3 rfl) ?_
      refine x_iald S w 6 0 (g := (fiF f N v (i + 1) (i + 1) (i + 1)) 5) (v := eaF f N v i) i (by omega) (rfl) (Nat.le_of_ble_eq_true rfl) (mc_6) rfl (pfx_lt _ _ (Nat.lt_succ_self i)) dX5_finish_71 ?_
      refine x_Si (As := [.int (eaF f N v i)]) (rest := [.int (nmF f N v i)]) S w (goodS lk_RX5_140 lt_X5_size ln_RX5 lc_X5_size) hd_X5_size (k_X5_size l _ _ (mW cI cO a s (fiF f N v (i + 1) (i + 1) (i + 1)) R) (eaF f N v i)) rfl ⟨(Nat.le_of_ble_eq_true rfl), (Nat.le_of_ble_eq_true rfl)⟩ ⟨rfl, rfl⟩ hl.1 rfl (Nat.le_of_ble_eq_true rfl) ⟨Nat.zero_le _, Nat.zero_le _⟩ dX5_finish_72 (fun H locs (w : Wd D (kT cI cO) (va_A _ _) _ _ (mW cI cO a s (fiF f N v (i + 1) (i + 1) (i + 1)) R) H locs) => ?_)
      refine x_eqi (x := o_X5_size (eaF f N v i)) (y := iabs (eaF f N v i)) (sz_eq _) ?_
      refine lv_iadd S.1 S.2.1 dX5_finish_75 ?_
      refine lv_istore_n (lv' := [(2, .int ((nmF f N v i) + (iabs (eaF f N v i)))), (0, .ref (a 0)), (1, .int v), (3, .int (nI i))]) S.1 S.2.1 dX5_finish_76 rfl hl (by decide) rfl (fun ls hl => ?_)
      refine lv_iinc (v := nI (i + 1)) (lv' := [(3, .int (nI (i + 1))), (2, .int ((nmF f N v i) + (iabs (eaF f N v i)))), (0, .ref (a 0)), (1, .int v)]) S.1 S.2.1 dX5_finish_77 hl (k := 3) rfl (x_inc _) (by decide) rfl (fun ls hl => ?_)
      refine lv_goto (tgt := 13) S.1 S.2.1 dX5_finish_80 (by decide) ?_
      exact ih v (i + 1) _ _ _ (by omega) (by omega) w (lv_sub hl [2, 3, 1, 0] rfl)
def o_X5_finish (s : Nat → Int32) (f : Nat → Nat → Int32) (N : Nat) (K : Nat) (d : Nat) (b : Nat) (mm : Nat) (G : Nat) : (Nat → Int32) × (Nat → Nat → Int32) := o_X5_finish_13 s f N K d b mm G (shF f N K G)
set_option maxHeartbeats 4000000 in
set_option maxRecDepth 100000 in
theorem k_X5_finish (l : Launch) (D : va_G) (cI cO : ClassId) (a : Nat → Nat) (R : va_W) (s : Nat → Int32) (f : Nat → Nat → Int32) (N : Nat) (K : Nat) (d : Nat) (b : Nat) (mm : Nat) (G : Nat) (wt : Nat) (L : Nat) (hN : s 0 = nI N) (h4 : 4 ≤ N) (h48 : N ≤ 48) (hK : s 19 = nI K) (hK2 : K + 1 < 1000000) (hd : s 2 = nI d) (hd8 : d ≤ 8) (hb : s 6 = nI b) (hb1 : 1 ≤ b) (hb10 : b ≤ 10) (hm : s 4 = nI mm) (hm4 : mm ≤ 4) (hG : s 7 = nI G) (hG5 : G ≤ 5) (hw : s 3 = nI wt) (hw3 : wt ≤ 333) (hL : s 5 = nI L) (hL1 : 1 ≤ L) (hL6 : L ≤ 1000000) : Mv l yX5_finish cX5_finish 4 none { frames := 3, cells := 0, slots := 0, locals := 76 } D (kT cI cO) (mW cI cO a s f R) [.ref (a 0)] (mW cI cO a (o_X5_finish s f N K d b mm G).1 (o_X5_finish s f N K d b mm G).2 R) := by
  intro sz
  refine ent (by decide +kernel) (Nat.le_of_ble_eq_true rfl) ?_
  intro p e st m below meth c ls S hr hlk hnm w hsz hl
  have hl : lv_has ls 4 [(0, .ref (a 0))] := hl
  refine lv_aload_n S.1 S.2.1 dX5_finish_0 rfl (lv_at hl 0 rfl) ?_
  refine x_Vi (As := []) (rest := []) S w (goodV lk_RX5_147 li_X5_findShift ls_X5_findShift ln_RX5 lc_X5_findShift) hV_X5_findShift (k_X5_findShift l D cI cO a R s f N K G hN h4 h48 hK (by omega) hG hG5) rfl 0 5 rfl rfl mc_0 ⟨(Nat.le_of_ble_eq_true rfl), (Nat.le_of_ble_eq_true rfl)⟩ ⟨rfl, rfl⟩ hl.1 rfl (Nat.le_of_ble_eq_true rfl) ⟨Nat.zero_le _, Nat.zero_le _⟩ dX5_finish_1 (fun H locs (w : Wd D (kT cI cO) (va_A _ _) _ _ (mW cI cO a s f R) H locs) => ?_)
  refine x_eqi (x := o_X5_findShift s f N K G) (y := shF f N K G) rfl ?_
  refine lv_istore_n (lv' := [(1, .int (shF f N K G)), (0, .ref (a 0))]) S.1 S.2.1 dX5_finish_4 rfl hl (by decide) rfl (fun ls hl => ?_)
  refine lv_aload_n S.1 S.2.1 dX5_finish_5 rfl (lv_at hl 1 rfl) ?_
  refine x_Vv (As := []) (rest := []) S w (goodV lk_RX5_151 li_X5_makeRoom ls_X5_makeRoom ln_RX5 lc_X5_makeRoom) hV_X5_makeRoom (k_X5_makeRoom l D cI cO a R s f) rfl 0 5 rfl rfl mc_0 ⟨(Nat.le_of_ble_eq_true rfl), (Nat.le_of_ble_eq_true rfl)⟩ ⟨rfl, rfl⟩ hl.1 rfl (Nat.le_of_ble_eq_true rfl) ⟨Nat.zero_le _, Nat.zero_le _⟩ dX5_finish_6 (fun H locs (w : Wd D (kT cI cO) (va_A _ _) _ _ (mW cI cO a s (o_X5_makeRoom s f) R) H locs) => ?_)
  refine lv_iconst (v := 0) S.1 S.2.1 dX5_finish_9 (by decide) ?_
  refine lv_istore_n (lv' := [(2, .int 0), (1, .int (shF f N K G)), (0, .ref (a 0))]) S.1 S.2.1 dX5_finish_10 rfl hl (by decide) rfl (fun ls hl => ?_)
  refine lv_iconst (v := 0) S.1 S.2.1 dX5_finish_11 (by decide) ?_
  refine lv_istore_n (lv' := [(3, .int 0), (2, .int 0), (1, .int (shF f N K G)), (0, .ref (a 0))]) S.1 S.2.1 dX5_finish_12 rfl hl (by decide) rfl (fun ls hl => ?_)
  refine x_tov  (show mW cI cO a (o_X5_finish_13 s f N K d b mm G (shF f N K G)).1 (o_X5_finish_13 s f N K d b mm G (shF f N K G)).2 R = mW cI cO a (o_X5_finish s f N K d b mm G).1 (o_X5_finish s f N K d b mm G).2 R from by simp only [o_X5_finish]) ?_
  exact j_X5_finish_13 l D cI cO a R s f N K d b mm G wt L hN h4 h48 hK hK2 hd hd8 hb hb1 hb10 hm hm4 hG hG5 hw hw3 hL hL1 hL6 S hr hlk (N + 1) (shF f N K G) 0 _ _ _ (by omega) (by omega) (w.to (show mW cI cO a s (o_X5_makeRoom s f) R = mW cI cO a s (fiF f N (shF f N K G) 0 0 0) R from m_f fi_0)) (lv_sub hl [3, 2, 1, 0] rfl)
