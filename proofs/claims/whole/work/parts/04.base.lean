/-! the words of a method: its code, and all the words of the law -/
def wM (y : MethodName) (b : ByteArray) (n : Nat) (r : Option FieldType) : List Cond := .code y b n r :: wsL_law
set_option maxRecDepth 100000 in
theorem lawGood : ∀ w ∈ wsL_law, (w.onTables && w.keeps) = true ∨ ∃ ty, w = .arrayClass ty := fun w h => good_of_word (List.all_eq_true.mp (show wsL_law.all goodWord = true by decide +kernel) w h)
theorem goodM {y : MethodName} {b : ByteArray} {n : Nat} {r : Option FieldType} (h : Cond.code y b n r ∈ wsL_law) : GoodIn wsL_law (wM y b n r) := fun w hw => by
  rcases List.mem_cons.mp hw with rfl | h2
  · exact ⟨h, lawGood _ h⟩
  · exact ⟨h2, lawGood _ h2⟩
theorem goodV {own C : String} {idx : Nat} {y : MethodName} {b : ByteArray} {n : Nat} {r : Option FieldType} (h1 : Cond.methodLink own idx y ∈ wsL_law) (h2 : Cond.instanceMethod y ∈ wsL_law) (h3 : Cond.selects C y y ∈ wsL_law) (h4 : Cond.initialized C ∈ wsL_law) (h : Cond.code y b n r ∈ wsL_law) : GoodIn wsL_law (wsV own idx C y (wM y b n r)) := fun w hw => by
  unfold wsV at hw
  rcases List.mem_append.mp hw with hw | hw
  · simp only [List.mem_cons, List.not_mem_nil, or_false] at hw
    rcases hw with rfl | rfl | rfl | rfl
    · exact ⟨h1, lawGood _ h1⟩
    · exact ⟨h2, lawGood _ h2⟩
    · exact ⟨h3, lawGood _ h3⟩
    · exact ⟨h4, lawGood _ h4⟩
  · exact goodM h w hw
theorem goodS {own : String} {idx : Nat} {y : MethodName} {b : ByteArray} {n : Nat} {r : Option FieldType} (h1 : Cond.methodLink own idx y ∈ wsL_law) (h2 : Cond.static y ∈ wsL_law) (h4 : Cond.initialized y.cls ∈ wsL_law) (h : Cond.code y b n r ∈ wsL_law) : GoodIn wsL_law (va_wsS own idx y (wM y b n r)) := fun w hw => by
  unfold va_wsS at hw
  rcases List.mem_append.mp hw with hw | hw
  · simp only [List.mem_cons, List.not_mem_nil, or_false] at hw
    rcases hw with rfl | rfl | rfl
    · exact ⟨h1, lawGood _ h1⟩
    · exact ⟨h2, lawGood _ h2⟩
    · exact ⟨h4, lawGood _ h4⟩
  · exact goodM h w hw
abbrev kT (cI cO : ClassId) : List (ClassId × FieldType) := [(cI, .int), (cO, .array .int)]
/-- the world of a frame: the tables, the cells, apart, nothing else changed since H0, what is new is free -/
def Wd (D : va_G) (tys : List (ClassId × FieldType)) (A : Nat → Prop) (H0 : Heap) (s : State) (ws : va_W) (H : Heap) (locs : List Loc) : Prop := va_K D vwCl tys s ∧ va_P D vwCl ws H ∧ va_D A ws ∧ va_S A H0 H locs ∧ ∀ q : Nat, H0.size ≤ q → A q
def mP (D : va_G) (tys : List (ClassId × FieldType)) (ws : va_W) (sz : Nat) (av : List Value) : Array Value → State → Prop := va_Pc av (fun U => U.heap.size = sz ∧ va_P D vwCl ws U.heap ∧ va_K D vwCl tys U ∧ va_D (fun _ => True) ws)
theorem mP_blind {D : va_G} {tys : List (ClassId × FieldType)} {ws : va_W} {sz : Nat} {av : List Value} : FrameBlind (mP D tys ws sz av) := fun a U g mk q => ⟨q.1, q.2.1, q.2.2.1, va_K.moved (u := U) (U := U.calling g mk a) (Vm.Alike.refl U.vm) q.2.2.2.1, q.2.2.2.2⟩
def mB (D : va_G) (tys : List (ClassId × FieldType)) (ws0 : va_W) (sz : Nat) (ws' : va_W) (t : State) : Prop := va_P D vwCl ws' t.heap ∧ va_K D vwCl tys t ∧ va_D (va_A ws0 sz) ws'
def mQi (D : va_G) (tys : List (ClassId × FieldType)) (ws0 : va_W) (sz : Nat) (ws' : va_W) (r : Int32) : Array Value → State → Outcome → State → Prop := va_Qi (S := Unit) (fun x _ => x = r) (fun _ t => mB D tys ws0 sz ws' t) (va_A ws0 sz)
def mQl (D : va_G) (tys : List (ClassId × FieldType)) (ws0 : va_W) (sz : Nat) (ws' : va_W) (r : Int64) : Array Value → State → Outcome → State → Prop := va_Ql (S := Unit) (fun x _ => x = r) (fun _ t => mB D tys ws0 sz ws' t) (va_A ws0 sz)
def mQv (D : va_G) (tys : List (ClassId × FieldType)) (ws0 : va_W) (sz : Nat) (ws' : va_W) : Array Value → State → Outcome → State → Prop := va_Qv (S := Unit) (fun _ => True) (fun _ t => mB D tys ws0 sz ws' t) (va_A ws0 sz)
def mQr (D : va_G) (tys : List (ClassId × FieldType)) (ws0 : va_W) (sz : Nat) (ws' : va_W) (r : Nat) : Array Value → State → Outcome → State → Prop := va_Qr (S := Unit) (fun _ => True) (fun _ a t => a = r ∧ mB D tys ws0 sz ws' t) (va_A ws0 sz)
def Mi (l : Launch) (y : MethodName) (b : ByteArray) (n : Nat) (ret : Option FieldType) (rm : Room) (D : va_G) (tys : List (ClassId × FieldType)) (ws : va_W) (av : List Value) (ws' : va_W) (r : Int32) : Prop := ∀ sz, Met l y (wM y b n ret) rm (mP D tys ws sz av) (mQi D tys ws sz ws' r) 0 0 (va_A ws sz)
def Ml (l : Launch) (y : MethodName) (b : ByteArray) (n : Nat) (ret : Option FieldType) (rm : Room) (D : va_G) (tys : List (ClassId × FieldType)) (ws : va_W) (av : List Value) (ws' : va_W) (r : Int64) : Prop := ∀ sz, Met l y (wM y b n ret) rm (mP D tys ws sz av) (mQl D tys ws sz ws' r) 0 0 (va_A ws sz)
def Mv (l : Launch) (y : MethodName) (b : ByteArray) (n : Nat) (ret : Option FieldType) (rm : Room) (D : va_G) (tys : List (ClassId × FieldType)) (ws : va_W) (av : List Value) (ws' : va_W) : Prop := ∀ sz, Met l y (wM y b n ret) rm (mP D tys ws sz av) (mQv D tys ws sz ws') 0 0 (va_A ws sz)
def Mr (l : Launch) (y : MethodName) (b : ByteArray) (n : Nat) (ret : Option FieldType) (rm : Room) (D : va_G) (tys : List (ClassId × FieldType)) (ws : va_W) (av : List Value) (ws' : va_W) (r : Nat) : Prop := ∀ sz, Met l y (wM y b n ret) rm (mP D tys ws sz av) (mQr D tys ws sz ws' r) 0 0 (va_A ws sz)
/-- a method's entry -/
theorem ent {l : Launch} {y : MethodName} {b : ByteArray} {n : Nat} {ret : Option FieldType} {rm : Room} {D : va_G} {tys : List (ClassId × FieldType)} {ws0 : va_W} {av : List Value} {sz : Nat} {Qc : Array Value → State → Outcome → State → Prop} {mc ms : Nat} (hy : plainFor y = true) (hn : (lg_sl av).length ≤ n)
    (body : ∀ (p : Program) (e : Env) (s : State) (m : MethodId) (below : List Frame) (meth : Method) (c : Code) (ls : Array Slot), CallFix p m c b n s av.toArray wsL_law y.cls → meth.sig.returnType = ret → meth.locks = false → meth.name = y.name → Wd D tys (va_A ws0 sz) s.heap s ws0 s.heap [] → s.heap.size = sz → lv_has ls n (lv_args 0 av) →
      W p l e rm s m av.toArray below meth c s.heap [] 0 0 (MQ below Qc av.toArray s mc ms (va_A ws0 sz)) (F0 m 0 ls [])) : Met l y (wM y b n ret) rm (mP D tys ws0 sz av) Qc mc ms (va_A ws0 sz) := by
  refine va_MetF (cc := b) (maxL := n) (ret := ret) hy rfl ?_
  intro p e s m args below meth c s₁ B hml hv
  obtain ⟨rfl, hsz, hP, hK, hD0⟩ := hv
  have hts := atoms_spec (ws := wM y b n ret) B.pre
  rw [lg_entry_eq]
  refine body p e s m below meth c _ ⟨B.exec, B.bytes, hml, findClass_of_methodNamed B.named, fun w h => hts w (List.mem_cons_of_mem _ h)⟩ B.returns B.notSynchronized (name_of_methodNamed B.named B.method).1 ⟨hK, hP, hD0.self, va_S.rf, fun q h => Or.inr (by rw [← hsz]; exact h)⟩ hsz (lv_entry av hn)
section BASE
variable {p : Program} {l : Launch} {e : Env} {R : Room} {s : State} {m : MethodId} {args : Array Value} {below : List Frame} {meth : Method} {c : Code} {H : Heap} {locs : List Loc} {cells slots : Nat} {Q : State → Prop}
variable {cc : ByteArray} {nL : Nat} {own : String} {pc : Nat} {ls : Array Slot} {rest : List Value} {D : va_G} {tys : List (ClassId × FieldType)} {cI cO : ClassId} {A : Nat → Prop} {H0 : Heap} {ws ws' : va_W} {a : Nat}
theorem x_eqi {x y : Int32} (h : x = y) (k : W p l e R s m args below meth c H locs cells slots Q (F0 m pc ls (.int y :: rest))) : W p l e R s m args below meth c H locs cells slots Q (F0 m pc ls (.int x :: rest)) := h ▸ k
theorem x_eql {x y : Int64} (h : x = y) (k : W p l e R s m args below meth c H locs cells slots Q (F0 m pc ls (.long y :: rest))) : W p l e R s m args below meth c H locs cells slots Q (F0 m pc ls (.long x :: rest)) := h ▸ k
theorem x_eqi2 {x y : Int32} {v : Value} (h : x = y) (k : W p l e R s m args below meth c H locs cells slots Q (F0 m pc ls (v :: .int y :: rest))) : W p l e R s m args below meth c H locs cells slots Q (F0 m pc ls (v :: .int x :: rest)) := h ▸ k
theorem Wd.to (h : Wd D tys A H0 s ws H locs) (e : ws = ws') : Wd D tys A H0 s ws' H locs := e ▸ h
theorem wd_own (w : Wd D tys A H0 s ws H locs) : ∀ q : Nat, va_A ws H.size q → A q := fun q h => h.elim (fun ⟨k, e, hk⟩ => w.2.2.1.2 k (q, e) hk) (fun h => w.2.2.2.2 q (Nat.le_trans w.2.2.2.1.1 h))
theorem x_iald (S : CallFix p m c cc nL s args wsL_law own) (w : Wd D tys A H0 s ws H locs) (q0 t0 : Nat) {n : Nat} {g : Nat → Int32} {x v : Int32} (j : Nat) (hj : j < n) (hx : x = nI j) (hn : n < 2 ^ 31) (he : ws[q0]? = some (a, .inl (cI, n, .inl g))) (ht : tys[t0]? = some (cI, .int)) (hv : g j = v) (hd : decode cc pc = .ok (.iaload, 1))
    (kk : W p l e R s m args below meth c H locs cells slots Q (F0 m (pc + 1) ls (.int v :: rest))) : W p l e R s m args below meth c H locs cells slots Q (F0 m pc ls (.int x :: .ref a :: rest)) := by
  subst hx
  subst hv
  have hc : (nI j).toNatClampNeg = j := nI_clamp (Nat.lt_trans hj hn)
  refine va_iald S.1 S.2.1 w.1 w.2.1 q0 t0 he ht (vp_in_nI hj hn) hd ?_
  rw [hc]
  exact kk
theorem x_iast (S : CallFix p m c cc nL s args wsL_law own) (w : Wd D tys A H0 s ws H locs) (q0 t0 : Nat) {n : Nat} {g : Nat → Int32} {x v : Int32} (j : Nat) (hj : j < n) (hx : x = nI j) (hn : n < 2 ^ 31) (he : ws[q0]? = some (a, .inl (cI, n, .inl g))) (ht : tys[t0]? = some (cI, .int)) (hw : ws.set q0 (a, .inl (cI, n, .inl (upd g j v))) = ws') (hd : decode cc pc = .ok (.iastore, 1))
    (kk : ∀ (H1 : Heap) (locs1 : List Loc), Wd D tys A H0 s ws' H1 locs1 → W p l e R s m args below meth c H1 locs1 cells slots Q (F0 m (pc + 1) ls rest)) : W p l e R s m args below meth c H locs cells slots Q (F0 m pc ls (.int v :: .int x :: .ref a :: rest)) := by
  subst hx
  have hc : (nI j).toNatClampNeg = j := nI_clamp (Nat.lt_trans hj hn)
  refine va_iast S.1 S.2.1 w.1 w.2.1 w.2.2.1 w.2.2.2.1 q0 t0 he ht (vp_in_nI hj hn) hd (fun H1 locs1 hP hD hS => ?_)
  rw [hc, hw] at hP hD
  exact kk H1 locs1 ⟨w.1, hP, hD, hS, w.2.2.2.2⟩
theorem x_aald (S : CallFix p m c cc nL s args wsL_law own) (w : Wd D tys A H0 s ws H locs) (q0 t0 : Nat) {n v : Nat} {g : Nat → Option Nat} {x : Int32} (j : Nat) (hj : j < n) (hx : x = nI j) (hn : n < 2 ^ 31) (he : ws[q0]? = some (a, .inl (cO, n, .inr (.inr (.inr (.inr g)))))) (ht : tys[t0]? = some (cO, .array .int)) (hv : g j = some v) (hd : decode cc pc = .ok (.aaload, 1))
    (kk : W p l e R s m args below meth c H locs cells slots Q (F0 m (pc + 1) ls (.ref v :: rest))) : W p l e R s m args below meth c H locs cells slots Q (F0 m pc ls (.int x :: .ref a :: rest)) := by
  subst hx
  have hc : (nI j).toNatClampNeg = j := nI_clamp (Nat.lt_trans hj hn)
  have hin : vp_in (nI j) n := vp_in_nI hj hn
  have e1 : va_rf (g j) = .ref v := by rw [hv]; rfl
  rw [← e1] at kk
  exact W.aald (v := va_rf (g j)) (ty := .array .int) S.1 S.2.1 (w.2.1 q0 _ he) ((w.1.2 t0 _ ht).1 n (fun j => va_rf (g j))) rfl (fun q => by cases q) (by show ¬ (nI j < 0 ∨ (arrV _ _ _).slots.size ≤ _); rw [arrV_size]; exact hin) (by show (arrV _ _ _).slots[_]? = _; rw [hc, arrV_read _ _ hj]) rfl rfl hd kk
theorem x_alen (S : CallFix p m c cc nL s args wsL_law own) (w : Wd D tys A H0 s ws H locs) (q0 t0 : Nat) {n : Nat} {g : Nat → Int32} (he : ws[q0]? = some (a, .inl (cI, n, .inl g))) (ht : tys[t0]? = some (cI, .int)) (hd : decode cc pc = .ok (.arraylength, 1))
    (kk : W p l e R s m args below meth c H locs cells slots Q (F0 m (pc + 1) ls (.int (nI n) :: rest))) : W p l e R s m args below meth c H locs cells slots Q (F0 m pc ls (.ref a :: rest)) :=
  va_alen S.1 S.2.1 w.1 w.2.1 q0 t0 he ht rfl hd kk
theorem x_copy (S : CallFix p m c cc nL s args wsL_law own) (w : Wd D tys A H0 s ws H locs) {index : Nat} (hlink : Cond.methodLink own index arraycopyName ∈ wsL_law) (hls : ls.size = nL) (q0 q1 t0 : Nat) {a0 : Nat} {n0 n1 : Nat} {f g : Nat → Int32} (ha0 : ws[q0]? = some (a0, .inl (cI, n0, .inl f))) (ha1 : ws[q1]? = some (a, .inl (cI, n1, .inl g))) (ht0 : tys[t0]? = some (cI, .int))
    {x : Int32} (n : Nat) (hx : x = nI n) (h4 : n ≤ n0) (h5 : n ≤ n1) (hn0 : n0 < 2 ^ 31) (hframes : 1 ≤ R.frames) (hlocals : (rest.map fun v => v.category).sum + (nativeFrameWords "java/lang/System" "arraycopy" 5 + 11) ≤ R.locals) (hw : ws.set q1 (a, .inl (cI, n1, .inl (va_cpy f g 0 0 n))) = ws') (hdg : decode cc pc = .ok (.invokestatic index, 3))
    (kk : ∀ (H1 : Heap) (locs1 : List Loc), Wd D tys A H0 s ws' H1 locs1 → W p l e R s m args below meth c H1 locs1 cells slots Q (F0 m (pc + 3) ls rest)) : W p l e R s m args below meth c H locs cells slots Q (F0 m pc ls (.int x :: .int 0 :: .ref a :: .int 0 :: .ref a0 :: rest)) := by
  subst hx
  have hc : (nI n).toNatClampNeg = n := nI_clamp (Nat.lt_of_le_of_lt h4 hn0)
  have h0 : (0 : Int32).toNatClampNeg = 0 := rfl
  have hm : ∀ w, w ∈ wsL_law → w.before args s = true := S.2.2.2.2
  refine va_copyi S.1 S.2.1 (S.2.2.1.trans hls.symm) S.2.2.2.1 (hm _ hlink) (hm _ (by decide +kernel)) (hm _ (by decide +kernel)) (hm _ (by decide +kernel)) w.1 w.2.1 w.2.2.1 w.2.2.2.1 q0 q1 t0 t0 ha0 ha1 ht0 ht0 rfl (by decide) (by decide) (nI_pos (Nat.lt_of_le_of_lt h4 hn0)) (by rw [hc, h0]; omega) (by rw [hc, h0]; omega) (fun i hi => rfl) hframes hlocals hdg (fun H1 locs1 hP hD hS => ?_)
  rw [hc, h0, hw] at hP hD
  exact kk H1 locs1 ⟨w.1, hP, hD, hS, w.2.2.2.2⟩
theorem x_mmax (S : CallFix p m c cc nL s args wsL_law own) {index : Nat} (hlink : Cond.methodLink own index Lib.Math.max.name ∈ wsL_law) (hls : ls.size = nL) (hframes : 1 ≤ R.frames) (hlocals : (rest.map fun v => v.category).sum + 13 ≤ R.locals) (hc : cells ≤ R.cells) (hs : slots ≤ R.slots) {x y v : Int32} (hv : (if x < y then y else x) = v) (hdg : decode cc pc = .ok (.invokestatic index, 3))
    (kk : W p l e R s m args below meth c H locs cells slots Q (F0 m (pc + 3) ls (.int v :: rest))) : W p l e R s m args below meth c H locs cells slots Q (F0 m pc ls (.int y :: .int x :: rest)) := by
  subst hv
  have hm : ∀ w, w ∈ wsL_law → w.before args s = true := S.2.2.2.2
  exact va_mmax S.1 S.2.1 (S.2.2.1.trans hls.symm) S.2.2.2.1 (hm _ hlink) (hm _ (by decide +kernel)) (hm _ (by decide +kernel)) (hm _ (by decide +kernel)) hframes hlocals hc hs hdg kk
theorem x_mmin (S : CallFix p m c cc nL s args wsL_law own) {index : Nat} (hlink : Cond.methodLink own index Lib.Math.min.name ∈ wsL_law) (hls : ls.size = nL) (hframes : 1 ≤ R.frames) (hlocals : (rest.map fun v => v.category).sum + 13 ≤ R.locals) (hc : cells ≤ R.cells) (hs : slots ≤ R.slots) {x y v : Int32} (hv : (if y < x then y else x) = v) (hdg : decode cc pc = .ok (.invokestatic index, 3))
    (kk : W p l e R s m args below meth c H locs cells slots Q (F0 m (pc + 3) ls (.int v :: rest))) : W p l e R s m args below meth c H locs cells slots Q (F0 m pc ls (.int y :: .int x :: rest)) := by
  subst hv
  have hm : ∀ w, w ∈ wsL_law → w.before args s = true := S.2.2.2.2
  exact va_mmin S.1 S.2.1 (S.2.2.1.trans hls.symm) S.2.2.2.1 (hm _ hlink) (hm _ (by decide +kernel)) (hm _ (by decide +kernel)) (hm _ (by decide +kernel)) hframes hlocals hc hs hdg kk
/-- the size of an int, as a class of ours may write it -/
def iabs (x : Int32) : Int32 := if x < 0 then -x else x
theorem iabs_eq (x : Int32) : (if 0 ≤ x then x else 0 - x) = iabs x := by
  unfold iabs
  by_cases h : x < 0
  · rw [if_pos h, if_neg (Int32.not_le.mpr h), Int32.zero_sub]
  · rw [if_neg h, if_pos (Int32.not_lt.mp h)]
theorem x_mabs (S : CallFix p m c cc nL s args wsL_law own) {index : Nat} (hlink : Cond.methodLink own index Lib.Math.abs.name ∈ wsL_law) (hls : ls.size = nL) (hframes : 1 ≤ R.frames) (hlocals : (rest.map fun v => v.category).sum + 13 ≤ R.locals) (hc : cells ≤ R.cells) (hs : slots ≤ R.slots) {x : Int32} (hdg : decode cc pc = .ok (.invokestatic index, 3))
    (kk : W p l e R s m args below meth c H locs cells slots Q (F0 m (pc + 3) ls (.int (iabs x) :: rest))) : W p l e R s m args below meth c H locs cells slots Q (F0 m pc ls (.int x :: rest)) := by
  have hm : ∀ w, w ∈ wsL_law → w.before args s = true := S.2.2.2.2
  rw [← iabs_eq] at kk
  exact va_mabs S.1 S.2.1 (S.2.2.1.trans hls.symm) S.2.2.2.1 (hm _ hlink) (hm _ (by decide +kernel)) (hm _ (by decide +kernel)) (hm _ (by decide +kernel)) hframes hlocals hc hs hdg kk
theorem x_ldc (S : CallFix p m c cc nL s args wsL_law own) {index : Nat} {v : Int32} (hk : Cond.constant own index v ∈ wsL_law) (hdg : decode cc pc = .ok (.ldc index, 2)) (k : W p l e R s m args below meth c H locs cells slots Q (F0 m (pc + 2) ls (.int v :: rest))) : W p l e R s m args below meth c H locs cells slots Q (F0 m pc ls rest) := lv_ldc S.1 S.2.1 S.2.2.2.1 (S.2.2.2.2 _ hk) hdg k
theorem x_ldcw (S : CallFix p m c cc nL s args wsL_law own) {index : Nat} {v : Int32} (hk : Cond.constant own index v ∈ wsL_law) (hdg : decode cc pc = .ok (.ldc_w index, 3)) (k : W p l e R s m args below meth c H locs cells slots Q (F0 m (pc + 3) ls (.int v :: rest))) : W p l e R s m args below meth c H locs cells slots Q (F0 m pc ls rest) := lv_ldcw S.1 S.2.1 S.2.2.2.1 (S.2.2.2.2 _ hk) hdg k
theorem x_ldc2 (S : CallFix p m c cc nL s args wsL_law own) {index : Nat} {v : Int64} (hk : Cond.constantLong own index v ∈ wsL_law) (hdg : decode cc pc = .ok (.ldc2_w index, 3)) (k : W p l e R s m args below meth c H locs cells slots Q (F0 m (pc + 3) ls (.long v :: rest))) : W p l e R s m args below meth c H locs cells slots Q (F0 m pc ls rest) := lv_ldc2 S.1 S.2.1 S.2.2.2.1 (S.2.2.2.2 _ hk) hdg k

theorem x_get0 (S : CallFix p m c cc nL s args wsL_law own) (w : Wd D tys A H0 s ws H locs) (q0 : Nat) {fs : List Value} (he : ws[q0]? = some (a, .inr (0, fs))) (k : Nat) (hk : k < 4) {index : Nat} (hl : Cond.fieldLink own index (TX0 k).1 (TX0 k).2.1 (TX0 k).2.2.1 ∈ wsL_law) {v : Value} (hv : fs[k]? = some v) (hd : decode cc pc = .ok (.getfield index, 3))
    (kk : W p l e R s m args below meth c H locs cells slots Q (F0 m (pc + 3) ls (v :: rest))) : W p l e R s m args below meth c H locs cells slots Q (F0 m pc ls (.ref a :: rest)) :=
  va_get (D := D) (ci := 0) (C := RX0) (T := TX0) (N := 4) S.1 S.2.1 S.2.2.2.2 inlX0 S.2.2.2.1 w.1 w.2.1 q0 he rfl k hk (S.2.2.2.2 _ hl) (fun _ h9 => h9) hv hd kk
theorem x_put0 (S : CallFix p m c cc nL s args wsL_law own) (w : Wd D tys A H0 s ws H locs) (q0 : Nat) {fs : List Value} (he : ws[q0]? = some (a, .inr (0, fs))) (k : Nat) (hk : k < 4) {index : Nat} (hl : Cond.fieldLink own index (TX0 k).1 (TX0 k).2.1 (TX0 k).2.2.1 ∈ wsL_law) (hfin : (TX0 k).2.2.2 = false) {v : Value} (hn : narrow (tyX0 k) v = v) (hfit : fits (tyX0 k) v = true) (hlen : k < fs.length) (hw : ws.set q0 (a, .inr (0, fs.set k v)) = ws') (hd : decode cc pc = .ok (.putfield index, 3))
    (kk : ∀ (H1 : Heap) (locs1 : List Loc), Wd D tys A H0 s ws' H1 locs1 → W p l e R s m args below meth c H1 locs1 cells slots Q (F0 m (pc + 3) ls rest)) : W p l e R s m args below meth c H locs cells slots Q (F0 m pc ls (v :: .ref a :: rest)) := by
  subst hw
  exact va_put (D := D) (ci := 0) (C := RX0) (T := TX0) (N := 4) S.1 S.2.1 S.2.2.2.2 inlX0 tyX0 tyX0_ok nmX0 S.2.2.2.1 w.1 w.2.1 w.2.2.1 w.2.2.2.1 q0 he rfl k hk (S.2.2.2.2 _ hl) (fun _ h9 => h9) hfin (tyX0_ok k hk) hn hfit hlen hd (fun H1 locs1 hP hD hS => kk H1 locs1 ⟨w.1, hP, hD, hS, w.2.2.2.2⟩)
theorem x_putF0 (S : CallFix p m c cc nL s args wsL_law own) (hin : meth.name = "<init>") (w : Wd D tys A H0 s ws H locs) (q0 : Nat) {fs : List Value} (he : ws[q0]? = some (a, .inr (0, fs))) (k : Nat) (hk : k < 4) {index : Nat} (hl : Cond.fieldLink own index (TX0 k).1 (TX0 k).2.1 (TX0 k).2.2.1 ∈ wsL_law) (hfin : (TX0 k).2.2.2 = true) (hdecl : (TX0 k).1 = own) {v : Value} (hn : narrow (tyX0 k) v = v) (hfit : fits (tyX0 k) v = true) (hlen : k < fs.length) (hw : ws.set q0 (a, .inr (0, fs.set k v)) = ws') (hd : decode cc pc = .ok (.putfield index, 3))
    (kk : ∀ (H1 : Heap) (locs1 : List Loc), Wd D tys A H0 s ws' H1 locs1 → W p l e R s m args below meth c H1 locs1 cells slots Q (F0 m (pc + 3) ls rest)) : W p l e R s m args below meth c H locs cells slots Q (F0 m pc ls (v :: .ref a :: rest)) := by
  subst hw
  exact va_putF (D := D) (ci := 0) (C := RX0) (T := TX0) (N := 4) S.1 S.2.1 S.2.2.2.2 inlX0 tyX0 tyX0_ok nmX0 S.2.2.2.1 w.1 w.2.1 w.2.2.1 w.2.2.2.1 q0 he rfl k hk (S.2.2.2.2 _ hl) (fun _ h9 => h9) hfin hin hdecl (tyX0_ok k hk) hn hfit hlen hd (fun H1 locs1 hP hD hS => kk H1 locs1 ⟨w.1, hP, hD, hS, w.2.2.2.2⟩)
theorem x_get1 (S : CallFix p m c cc nL s args wsL_law own) (w : Wd D tys A H0 s ws H locs) (q0 : Nat) {fs : List Value} (he : ws[q0]? = some (a, .inr (1, fs))) (k : Nat) (hk : k < 4) {index : Nat} (hl : Cond.fieldLink own index (TX1 k).1 (TX1 k).2.1 (TX1 k).2.2.1 ∈ wsL_law) {v : Value} (hv : fs[k]? = some v) (hd : decode cc pc = .ok (.getfield index, 3))
    (kk : W p l e R s m args below meth c H locs cells slots Q (F0 m (pc + 3) ls (v :: rest))) : W p l e R s m args below meth c H locs cells slots Q (F0 m pc ls (.ref a :: rest)) :=
  va_get (D := D) (ci := 1) (C := RX1) (T := TX1) (N := 4) S.1 S.2.1 S.2.2.2.2 inlX1 S.2.2.2.1 w.1 w.2.1 q0 he rfl k hk (S.2.2.2.2 _ hl) (fun _ h9 => h9) hv hd kk
theorem x_put1 (S : CallFix p m c cc nL s args wsL_law own) (w : Wd D tys A H0 s ws H locs) (q0 : Nat) {fs : List Value} (he : ws[q0]? = some (a, .inr (1, fs))) (k : Nat) (hk : k < 4) {index : Nat} (hl : Cond.fieldLink own index (TX1 k).1 (TX1 k).2.1 (TX1 k).2.2.1 ∈ wsL_law) (hfin : (TX1 k).2.2.2 = false) {v : Value} (hn : narrow (tyX1 k) v = v) (hfit : fits (tyX1 k) v = true) (hlen : k < fs.length) (hw : ws.set q0 (a, .inr (1, fs.set k v)) = ws') (hd : decode cc pc = .ok (.putfield index, 3))
    (kk : ∀ (H1 : Heap) (locs1 : List Loc), Wd D tys A H0 s ws' H1 locs1 → W p l e R s m args below meth c H1 locs1 cells slots Q (F0 m (pc + 3) ls rest)) : W p l e R s m args below meth c H locs cells slots Q (F0 m pc ls (v :: .ref a :: rest)) := by
  subst hw
  exact va_put (D := D) (ci := 1) (C := RX1) (T := TX1) (N := 4) S.1 S.2.1 S.2.2.2.2 inlX1 tyX1 tyX1_ok nmX1 S.2.2.2.1 w.1 w.2.1 w.2.2.1 w.2.2.2.1 q0 he rfl k hk (S.2.2.2.2 _ hl) (fun _ h9 => h9) hfin (tyX1_ok k hk) hn hfit hlen hd (fun H1 locs1 hP hD hS => kk H1 locs1 ⟨w.1, hP, hD, hS, w.2.2.2.2⟩)
theorem x_putF1 (S : CallFix p m c cc nL s args wsL_law own) (hin : meth.name = "<init>") (w : Wd D tys A H0 s ws H locs) (q0 : Nat) {fs : List Value} (he : ws[q0]? = some (a, .inr (1, fs))) (k : Nat) (hk : k < 4) {index : Nat} (hl : Cond.fieldLink own index (TX1 k).1 (TX1 k).2.1 (TX1 k).2.2.1 ∈ wsL_law) (hfin : (TX1 k).2.2.2 = true) (hdecl : (TX1 k).1 = own) {v : Value} (hn : narrow (tyX1 k) v = v) (hfit : fits (tyX1 k) v = true) (hlen : k < fs.length) (hw : ws.set q0 (a, .inr (1, fs.set k v)) = ws') (hd : decode cc pc = .ok (.putfield index, 3))
    (kk : ∀ (H1 : Heap) (locs1 : List Loc), Wd D tys A H0 s ws' H1 locs1 → W p l e R s m args below meth c H1 locs1 cells slots Q (F0 m (pc + 3) ls rest)) : W p l e R s m args below meth c H locs cells slots Q (F0 m pc ls (v :: .ref a :: rest)) := by
  subst hw
  exact va_putF (D := D) (ci := 1) (C := RX1) (T := TX1) (N := 4) S.1 S.2.1 S.2.2.2.2 inlX1 tyX1 tyX1_ok nmX1 S.2.2.2.1 w.1 w.2.1 w.2.2.1 w.2.2.2.1 q0 he rfl k hk (S.2.2.2.2 _ hl) (fun _ h9 => h9) hfin hin hdecl (tyX1_ok k hk) hn hfit hlen hd (fun H1 locs1 hP hD hS => kk H1 locs1 ⟨w.1, hP, hD, hS, w.2.2.2.2⟩)
theorem x_get2 (S : CallFix p m c cc nL s args wsL_law own) (w : Wd D tys A H0 s ws H locs) (q0 : Nat) {fs : List Value} (he : ws[q0]? = some (a, .inr (2, fs))) (k : Nat) (hk : k < 3) {index : Nat} (hl : Cond.fieldLink own index (TX2 k).1 (TX2 k).2.1 (TX2 k).2.2.1 ∈ wsL_law) {v : Value} (hv : fs[k]? = some v) (hd : decode cc pc = .ok (.getfield index, 3))
    (kk : W p l e R s m args below meth c H locs cells slots Q (F0 m (pc + 3) ls (v :: rest))) : W p l e R s m args below meth c H locs cells slots Q (F0 m pc ls (.ref a :: rest)) :=
  va_get (D := D) (ci := 2) (C := RX2) (T := TX2) (N := 3) S.1 S.2.1 S.2.2.2.2 inlX2 S.2.2.2.1 w.1 w.2.1 q0 he rfl k hk (S.2.2.2.2 _ hl) (fun _ h9 => h9) hv hd kk
theorem x_put2 (S : CallFix p m c cc nL s args wsL_law own) (w : Wd D tys A H0 s ws H locs) (q0 : Nat) {fs : List Value} (he : ws[q0]? = some (a, .inr (2, fs))) (k : Nat) (hk : k < 3) {index : Nat} (hl : Cond.fieldLink own index (TX2 k).1 (TX2 k).2.1 (TX2 k).2.2.1 ∈ wsL_law) (hfin : (TX2 k).2.2.2 = false) {v : Value} (hn : narrow (tyX2 k) v = v) (hfit : fits (tyX2 k) v = true) (hlen : k < fs.length) (hw : ws.set q0 (a, .inr (2, fs.set k v)) = ws') (hd : decode cc pc = .ok (.putfield index, 3))
    (kk : ∀ (H1 : Heap) (locs1 : List Loc), Wd D tys A H0 s ws' H1 locs1 → W p l e R s m args below meth c H1 locs1 cells slots Q (F0 m (pc + 3) ls rest)) : W p l e R s m args below meth c H locs cells slots Q (F0 m pc ls (v :: .ref a :: rest)) := by
  subst hw
  exact va_put (D := D) (ci := 2) (C := RX2) (T := TX2) (N := 3) S.1 S.2.1 S.2.2.2.2 inlX2 tyX2 tyX2_ok nmX2 S.2.2.2.1 w.1 w.2.1 w.2.2.1 w.2.2.2.1 q0 he rfl k hk (S.2.2.2.2 _ hl) (fun _ h9 => h9) hfin (tyX2_ok k hk) hn hfit hlen hd (fun H1 locs1 hP hD hS => kk H1 locs1 ⟨w.1, hP, hD, hS, w.2.2.2.2⟩)
theorem x_putF2 (S : CallFix p m c cc nL s args wsL_law own) (hin : meth.name = "<init>") (w : Wd D tys A H0 s ws H locs) (q0 : Nat) {fs : List Value} (he : ws[q0]? = some (a, .inr (2, fs))) (k : Nat) (hk : k < 3) {index : Nat} (hl : Cond.fieldLink own index (TX2 k).1 (TX2 k).2.1 (TX2 k).2.2.1 ∈ wsL_law) (hfin : (TX2 k).2.2.2 = true) (hdecl : (TX2 k).1 = own) {v : Value} (hn : narrow (tyX2 k) v = v) (hfit : fits (tyX2 k) v = true) (hlen : k < fs.length) (hw : ws.set q0 (a, .inr (2, fs.set k v)) = ws') (hd : decode cc pc = .ok (.putfield index, 3))
    (kk : ∀ (H1 : Heap) (locs1 : List Loc), Wd D tys A H0 s ws' H1 locs1 → W p l e R s m args below meth c H1 locs1 cells slots Q (F0 m (pc + 3) ls rest)) : W p l e R s m args below meth c H locs cells slots Q (F0 m pc ls (v :: .ref a :: rest)) := by
  subst hw
  exact va_putF (D := D) (ci := 2) (C := RX2) (T := TX2) (N := 3) S.1 S.2.1 S.2.2.2.2 inlX2 tyX2 tyX2_ok nmX2 S.2.2.2.1 w.1 w.2.1 w.2.2.1 w.2.2.2.1 q0 he rfl k hk (S.2.2.2.2 _ hl) (fun _ h9 => h9) hfin hin hdecl (tyX2_ok k hk) hn hfit hlen hd (fun H1 locs1 hP hD hS => kk H1 locs1 ⟨w.1, hP, hD, hS, w.2.2.2.2⟩)
theorem x_get3 (S : CallFix p m c cc nL s args wsL_law own) (w : Wd D tys A H0 s ws H locs) (q0 : Nat) {fs : List Value} (he : ws[q0]? = some (a, .inr (3, fs))) (k : Nat) (hk : k < 11) {index : Nat} (hl : Cond.fieldLink own index (TX3 k).1 (TX3 k).2.1 (TX3 k).2.2.1 ∈ wsL_law) {v : Value} (hv : fs[k]? = some v) (hd : decode cc pc = .ok (.getfield index, 3))
    (kk : W p l e R s m args below meth c H locs cells slots Q (F0 m (pc + 3) ls (v :: rest))) : W p l e R s m args below meth c H locs cells slots Q (F0 m pc ls (.ref a :: rest)) :=
  va_get (D := D) (ci := 3) (C := RX3) (T := TX3) (N := 11) S.1 S.2.1 S.2.2.2.2 inlX3 S.2.2.2.1 w.1 w.2.1 q0 he rfl k hk (S.2.2.2.2 _ hl) (fun _ h9 => h9) hv hd kk
theorem x_put3 (S : CallFix p m c cc nL s args wsL_law own) (w : Wd D tys A H0 s ws H locs) (q0 : Nat) {fs : List Value} (he : ws[q0]? = some (a, .inr (3, fs))) (k : Nat) (hk : k < 11) {index : Nat} (hl : Cond.fieldLink own index (TX3 k).1 (TX3 k).2.1 (TX3 k).2.2.1 ∈ wsL_law) (hfin : (TX3 k).2.2.2 = false) {v : Value} (hn : narrow (tyX3 k) v = v) (hfit : fits (tyX3 k) v = true) (hlen : k < fs.length) (hw : ws.set q0 (a, .inr (3, fs.set k v)) = ws') (hd : decode cc pc = .ok (.putfield index, 3))
    (kk : ∀ (H1 : Heap) (locs1 : List Loc), Wd D tys A H0 s ws' H1 locs1 → W p l e R s m args below meth c H1 locs1 cells slots Q (F0 m (pc + 3) ls rest)) : W p l e R s m args below meth c H locs cells slots Q (F0 m pc ls (v :: .ref a :: rest)) := by
  subst hw
  exact va_put (D := D) (ci := 3) (C := RX3) (T := TX3) (N := 11) S.1 S.2.1 S.2.2.2.2 inlX3 tyX3 tyX3_ok nmX3 S.2.2.2.1 w.1 w.2.1 w.2.2.1 w.2.2.2.1 q0 he rfl k hk (S.2.2.2.2 _ hl) (fun _ h9 => h9) hfin (tyX3_ok k hk) hn hfit hlen hd (fun H1 locs1 hP hD hS => kk H1 locs1 ⟨w.1, hP, hD, hS, w.2.2.2.2⟩)
theorem x_putF3 (S : CallFix p m c cc nL s args wsL_law own) (hin : meth.name = "<init>") (w : Wd D tys A H0 s ws H locs) (q0 : Nat) {fs : List Value} (he : ws[q0]? = some (a, .inr (3, fs))) (k : Nat) (hk : k < 11) {index : Nat} (hl : Cond.fieldLink own index (TX3 k).1 (TX3 k).2.1 (TX3 k).2.2.1 ∈ wsL_law) (hfin : (TX3 k).2.2.2 = true) (hdecl : (TX3 k).1 = own) {v : Value} (hn : narrow (tyX3 k) v = v) (hfit : fits (tyX3 k) v = true) (hlen : k < fs.length) (hw : ws.set q0 (a, .inr (3, fs.set k v)) = ws') (hd : decode cc pc = .ok (.putfield index, 3))
    (kk : ∀ (H1 : Heap) (locs1 : List Loc), Wd D tys A H0 s ws' H1 locs1 → W p l e R s m args below meth c H1 locs1 cells slots Q (F0 m (pc + 3) ls rest)) : W p l e R s m args below meth c H locs cells slots Q (F0 m pc ls (v :: .ref a :: rest)) := by
  subst hw
  exact va_putF (D := D) (ci := 3) (C := RX3) (T := TX3) (N := 11) S.1 S.2.1 S.2.2.2.2 inlX3 tyX3 tyX3_ok nmX3 S.2.2.2.1 w.1 w.2.1 w.2.2.1 w.2.2.2.1 q0 he rfl k hk (S.2.2.2.2 _ hl) (fun _ h9 => h9) hfin hin hdecl (tyX3_ok k hk) hn hfit hlen hd (fun H1 locs1 hP hD hS => kk H1 locs1 ⟨w.1, hP, hD, hS, w.2.2.2.2⟩)
theorem x_get4 (S : CallFix p m c cc nL s args wsL_law own) (w : Wd D tys A H0 s ws H locs) (q0 : Nat) {fs : List Value} (he : ws[q0]? = some (a, .inr (4, fs))) (k : Nat) (hk : k < 16) {index : Nat} (hl : Cond.fieldLink own index (TX4 k).1 (TX4 k).2.1 (TX4 k).2.2.1 ∈ wsL_law) {v : Value} (hv : fs[k]? = some v) (hd : decode cc pc = .ok (.getfield index, 3))
    (kk : W p l e R s m args below meth c H locs cells slots Q (F0 m (pc + 3) ls (v :: rest))) : W p l e R s m args below meth c H locs cells slots Q (F0 m pc ls (.ref a :: rest)) :=
  va_get (D := D) (ci := 4) (C := RX4) (T := TX4) (N := 16) S.1 S.2.1 S.2.2.2.2 inlX4 S.2.2.2.1 w.1 w.2.1 q0 he rfl k hk (S.2.2.2.2 _ hl) (fun _ h9 => h9) hv hd kk
theorem x_put4 (S : CallFix p m c cc nL s args wsL_law own) (w : Wd D tys A H0 s ws H locs) (q0 : Nat) {fs : List Value} (he : ws[q0]? = some (a, .inr (4, fs))) (k : Nat) (hk : k < 16) {index : Nat} (hl : Cond.fieldLink own index (TX4 k).1 (TX4 k).2.1 (TX4 k).2.2.1 ∈ wsL_law) (hfin : (TX4 k).2.2.2 = false) {v : Value} (hn : narrow (tyX4 k) v = v) (hfit : fits (tyX4 k) v = true) (hlen : k < fs.length) (hw : ws.set q0 (a, .inr (4, fs.set k v)) = ws') (hd : decode cc pc = .ok (.putfield index, 3))
    (kk : ∀ (H1 : Heap) (locs1 : List Loc), Wd D tys A H0 s ws' H1 locs1 → W p l e R s m args below meth c H1 locs1 cells slots Q (F0 m (pc + 3) ls rest)) : W p l e R s m args below meth c H locs cells slots Q (F0 m pc ls (v :: .ref a :: rest)) := by
  subst hw
  exact va_put (D := D) (ci := 4) (C := RX4) (T := TX4) (N := 16) S.1 S.2.1 S.2.2.2.2 inlX4 tyX4 tyX4_ok nmX4 S.2.2.2.1 w.1 w.2.1 w.2.2.1 w.2.2.2.1 q0 he rfl k hk (S.2.2.2.2 _ hl) (fun _ h9 => h9) hfin (tyX4_ok k hk) hn hfit hlen hd (fun H1 locs1 hP hD hS => kk H1 locs1 ⟨w.1, hP, hD, hS, w.2.2.2.2⟩)
theorem x_putF4 (S : CallFix p m c cc nL s args wsL_law own) (hin : meth.name = "<init>") (w : Wd D tys A H0 s ws H locs) (q0 : Nat) {fs : List Value} (he : ws[q0]? = some (a, .inr (4, fs))) (k : Nat) (hk : k < 16) {index : Nat} (hl : Cond.fieldLink own index (TX4 k).1 (TX4 k).2.1 (TX4 k).2.2.1 ∈ wsL_law) (hfin : (TX4 k).2.2.2 = true) (hdecl : (TX4 k).1 = own) {v : Value} (hn : narrow (tyX4 k) v = v) (hfit : fits (tyX4 k) v = true) (hlen : k < fs.length) (hw : ws.set q0 (a, .inr (4, fs.set k v)) = ws') (hd : decode cc pc = .ok (.putfield index, 3))
    (kk : ∀ (H1 : Heap) (locs1 : List Loc), Wd D tys A H0 s ws' H1 locs1 → W p l e R s m args below meth c H1 locs1 cells slots Q (F0 m (pc + 3) ls rest)) : W p l e R s m args below meth c H locs cells slots Q (F0 m pc ls (v :: .ref a :: rest)) := by
  subst hw
  exact va_putF (D := D) (ci := 4) (C := RX4) (T := TX4) (N := 16) S.1 S.2.1 S.2.2.2.2 inlX4 tyX4 tyX4_ok nmX4 S.2.2.2.1 w.1 w.2.1 w.2.2.1 w.2.2.2.1 q0 he rfl k hk (S.2.2.2.2 _ hl) (fun _ h9 => h9) hfin hin hdecl (tyX4_ok k hk) hn hfit hlen hd (fun H1 locs1 hP hD hS => kk H1 locs1 ⟨w.1, hP, hD, hS, w.2.2.2.2⟩)
theorem x_get5 (S : CallFix p m c cc nL s args wsL_law own) (w : Wd D tys A H0 s ws H locs) (q0 : Nat) {fs : List Value} (he : ws[q0]? = some (a, .inr (5, fs))) (k : Nat) (hk : k < 33) {index : Nat} (hl : Cond.fieldLink own index (TX5 k).1 (TX5 k).2.1 (TX5 k).2.2.1 ∈ wsL_law) {v : Value} (hv : fs[k]? = some v) (hd : decode cc pc = .ok (.getfield index, 3))
    (kk : W p l e R s m args below meth c H locs cells slots Q (F0 m (pc + 3) ls (v :: rest))) : W p l e R s m args below meth c H locs cells slots Q (F0 m pc ls (.ref a :: rest)) :=
  va_get (D := D) (ci := 5) (C := RX5) (T := TX5) (N := 33) S.1 S.2.1 S.2.2.2.2 inlX5 S.2.2.2.1 w.1 w.2.1 q0 he rfl k hk (S.2.2.2.2 _ hl) (fun _ h9 => h9) hv hd kk
theorem x_put5 (S : CallFix p m c cc nL s args wsL_law own) (w : Wd D tys A H0 s ws H locs) (q0 : Nat) {fs : List Value} (he : ws[q0]? = some (a, .inr (5, fs))) (k : Nat) (hk : k < 33) {index : Nat} (hl : Cond.fieldLink own index (TX5 k).1 (TX5 k).2.1 (TX5 k).2.2.1 ∈ wsL_law) (hfin : (TX5 k).2.2.2 = false) {v : Value} (hn : narrow (tyX5 k) v = v) (hfit : fits (tyX5 k) v = true) (hlen : k < fs.length) (hw : ws.set q0 (a, .inr (5, fs.set k v)) = ws') (hd : decode cc pc = .ok (.putfield index, 3))
    (kk : ∀ (H1 : Heap) (locs1 : List Loc), Wd D tys A H0 s ws' H1 locs1 → W p l e R s m args below meth c H1 locs1 cells slots Q (F0 m (pc + 3) ls rest)) : W p l e R s m args below meth c H locs cells slots Q (F0 m pc ls (v :: .ref a :: rest)) := by
  subst hw
  exact va_put (D := D) (ci := 5) (C := RX5) (T := TX5) (N := 33) S.1 S.2.1 S.2.2.2.2 inlX5 tyX5 tyX5_ok nmX5 S.2.2.2.1 w.1 w.2.1 w.2.2.1 w.2.2.2.1 q0 he rfl k hk (S.2.2.2.2 _ hl) (fun _ h9 => h9) hfin (tyX5_ok k hk) hn hfit hlen hd (fun H1 locs1 hP hD hS => kk H1 locs1 ⟨w.1, hP, hD, hS, w.2.2.2.2⟩)
theorem x_putF5 (S : CallFix p m c cc nL s args wsL_law own) (hin : meth.name = "<init>") (w : Wd D tys A H0 s ws H locs) (q0 : Nat) {fs : List Value} (he : ws[q0]? = some (a, .inr (5, fs))) (k : Nat) (hk : k < 33) {index : Nat} (hl : Cond.fieldLink own index (TX5 k).1 (TX5 k).2.1 (TX5 k).2.2.1 ∈ wsL_law) (hfin : (TX5 k).2.2.2 = true) (hdecl : (TX5 k).1 = own) {v : Value} (hn : narrow (tyX5 k) v = v) (hfit : fits (tyX5 k) v = true) (hlen : k < fs.length) (hw : ws.set q0 (a, .inr (5, fs.set k v)) = ws') (hd : decode cc pc = .ok (.putfield index, 3))
    (kk : ∀ (H1 : Heap) (locs1 : List Loc), Wd D tys A H0 s ws' H1 locs1 → W p l e R s m args below meth c H1 locs1 cells slots Q (F0 m (pc + 3) ls rest)) : W p l e R s m args below meth c H locs cells slots Q (F0 m pc ls (v :: .ref a :: rest)) := by
  subst hw
  exact va_putF (D := D) (ci := 5) (C := RX5) (T := TX5) (N := 33) S.1 S.2.1 S.2.2.2.2 inlX5 tyX5 tyX5_ok nmX5 S.2.2.2.1 w.1 w.2.1 w.2.2.1 w.2.2.2.1 q0 he rfl k hk (S.2.2.2.2 _ hl) (fun _ h9 => h9) hfin hin hdecl (tyX5_ok k hk) hn hfit hlen hd (fun H1 locs1 hP hD hS => kk H1 locs1 ⟨w.1, hP, hD, hS, w.2.2.2.2⟩)
theorem x_reti {r v : Int32} {ws0 : va_W} {sz : Nat} (S : CallFix p m c cc nL s args wsL_law own) (w : Wd D tys (va_A ws0 sz) s.heap s ws H locs) (hr : meth.sig.returnType = some .int) (hlk : meth.locks = false) (hd : decode cc pc = .ok (.ireturn, 1)) (hv : v = r) (hw : ws = ws') : W p l e R s m args below meth c H locs cells slots (MQ below (mQi D tys ws0 sz ws' r) args s cells slots (va_A ws0 sz)) (F0 m pc ls [.int v]) := by
  obtain ⟨hK, hP, hD, hS, hA⟩ := w
  subst hv
  subst hw
  exact W.iret S.1 S.2.1 hr (fun t ht hW => ⟨⟨v, (), rfl, rfl, by rw [ht]; exact hP, va_K.moved hW.alike hK, hD⟩, hS.F ht⟩) hS.2.2 hd hlk
theorem x_retz {r v : Int32} {ws0 : va_W} {sz : Nat} (S : CallFix p m c cc nL s args wsL_law own) (w : Wd D tys (va_A ws0 sz) s.heap s ws H locs) (hr : meth.sig.returnType = some .boolean) (hlk : meth.locks = false) (hd : decode cc pc = .ok (.ireturn, 1)) (hb : v = 0 ∨ v = 1) (hv : v = r) (hw : ws = ws') : W p l e R s m args below meth c H locs cells slots (MQ below (mQi D tys ws0 sz ws' r) args s cells slots (va_A ws0 sz)) (F0 m pc ls [.int v]) := by
  obtain ⟨hK, hP, hD, hS, hA⟩ := w
  subst hv
  subst hw
  exact W.zret S.1 S.2.1 hr (by rcases hb with rfl | rfl <;> rfl) (fun t ht hW => ⟨⟨v, (), rfl, rfl, by rw [ht]; exact hP, va_K.moved hW.alike hK, hD⟩, hS.F ht⟩) hS.2.2 hd hlk
theorem x_retl {r v : Int64} {ws0 : va_W} {sz : Nat} (S : CallFix p m c cc nL s args wsL_law own) (w : Wd D tys (va_A ws0 sz) s.heap s ws H locs) (hr : meth.sig.returnType = some .long) (hlk : meth.locks = false) (hd : decode cc pc = .ok (.lreturn, 1)) (hv : v = r) (hw : ws = ws') : W p l e R s m args below meth c H locs cells slots (MQ below (mQl D tys ws0 sz ws' r) args s cells slots (va_A ws0 sz)) (F0 m pc ls [.long v]) := by
  obtain ⟨hK, hP, hD, hS, hA⟩ := w
  subst hv
  subst hw
  exact W.lret S.1 S.2.1 hr (fun t ht hW => ⟨⟨v, (), rfl, rfl, by rw [ht]; exact hP, va_K.moved hW.alike hK, hD⟩, hS.F ht⟩) hS.2.2 hd hlk
theorem x_retv {ws0 : va_W} {sz : Nat} (S : CallFix p m c cc nL s args wsL_law own) (w : Wd D tys (va_A ws0 sz) s.heap s ws H locs) (hr : meth.sig.returnType = none) (hlk : meth.locks = false) (hd : decode cc pc = .ok (.return_, 1)) (hw : ws = ws') : W p l e R s m args below meth c H locs cells slots (MQ below (mQv D tys ws0 sz ws') args s cells slots (va_A ws0 sz)) (F0 m pc ls []) := by
  obtain ⟨hK, hP, hD, hS, hA⟩ := w
  subst hw
  exact W.vret S.1 S.2.1 hr (fun t ht hW => ⟨⟨(), rfl, trivial, by rw [ht]; exact hP, va_K.moved hW.alike hK, hD⟩, hS.F ht⟩) hS.2.2 hd hlk
theorem x_reta {r v : Nat} {ws0 : va_W} {sz : Nat} (S : CallFix p m c cc nL s args wsL_law own) (w : Wd D tys (va_A ws0 sz) s.heap s ws H locs) (hr : meth.sig.returnType = some (.array .int)) (hlk : meth.locks = false) (hd : decode cc pc = .ok (.areturn, 1)) (hv : v = r) (hw : ws = ws') : W p l e R s m args below meth c H locs cells slots (MQ below (mQr D tys ws0 sz ws' r) args s cells slots (va_A ws0 sz)) (F0 m pc ls [.ref v]) := by
  obtain ⟨hK, hP, hD, hS, hA⟩ := w
  subst hv
  subst hw
  exact W.aret S.1 S.2.1 hr (Or.inr ⟨_, rfl⟩) (Or.inr ⟨_, rfl⟩) (fun t ht hW => ⟨⟨(), v, rfl, trivial, rfl, by rw [ht]; exact hP, va_K.moved hW.alike hK, hD⟩, hS.F ht⟩) hS.2.2 hd hlk
theorem x_Vi {y : MethodName} {b : ByteArray} {n index k h : Nat} {ret : Option FieldType} {rm : Room} {C : String} {As st : List Value} {r : Int32} (S : CallFix p m c cc nL s args wsL_law own) (w : Wd D tys A H0 s ws H locs) (hG : GoodIn wsL_law (wsV own index C y (wM y b n ret))) (hd : y.cls = C ∧ y.cls ≠ "java/lang/invoke/MethodHandle" ∧ y.cls ≠ "java/lang/invoke/VarHandle" ∧ (parseMethodDescriptor y.desc).map (fun d => d.parameters.length) = some k)
    (hM : Mi l y b n ret rm D tys ws (.ref h :: As) ws' r) (hk : As.length = k) (q0 ci : Nat) {qc : vw_C} {fs : List Value} (hc : vwCl[ci]? = some qc) (hq : qc.1 = C) (he : ws[q0]? = some (h, .inr (ci, fs))) (hR : rm.frames + 1 ≤ R.frames ∧ 8 + (n + 11) + rm.locals ≤ R.locals) (hrm : rm.cells = 0 ∧ rm.slots = 0) (hls : ls.size = nL) (hst : st = As.reverse ++ .ref h :: rest) (hrest : (rest.map fun v => v.category).sum ≤ 8) (hcl : cells ≤ R.cells ∧ slots ≤ R.slots) (hdg : decode cc pc = .ok (.invokevirtual index, 3))
    (kk : ∀ (H1 : Heap) (locs1 : List Loc), Wd D tys A H0 s ws' H1 locs1 → W p l e R s m args below meth c H1 locs1 cells slots Q (F0 m (pc + 3) ls (.int r :: rest))) : W p l e R s m args below meth c H locs cells slots Q (F0 m pc ls st) := by
  subst hst
  have hF := wd_own w
  obtain ⟨hK, hP, hD, hS, hA⟩ := w
  subst hq
  refine va_calli (va_runV (As := As) (rest := rest) S (hM H.size) (cwV k S.2.2.2.2 hG rfl hrm.1 hrm.2 hd hR) ⟨mP_blind, va_recv hK hP hc he, fun U hU hW => ⟨rfl, by rw [hU], by rw [hU]; exact hP, va_K.moved hW.alike hK, hD.weaken (fun _ _ _ _ => trivial)⟩⟩ rfl hk hls rfl (lv_room hrest) hdg ⟨hcl.1, hcl.2⟩) hS (fun q _ h => hF q h) hF (fun r' u t H1 locs1 ht hvm hw hB hz1 hk1 hS => ?_)
  obtain ⟨hP1, hK1, hD1⟩ := hB
  subst hw
  exact kk H1 locs1 ⟨hK, by rw [← ht]; exact hP1, hD1.weaken (fun k q _ h => hF q.1 h), hS, hA⟩
theorem x_Si {y : MethodName} {b : ByteArray} {n index k : Nat} {ret : Option FieldType} {rm : Room} {As st : List Value} {r : Int32} (S : CallFix p m c cc nL s args wsL_law own) (w : Wd D tys A H0 s ws H locs) (hG : GoodIn wsL_law (va_wsS own index y (wM y b n ret))) (hd : y.cls ≠ "java/lang/invoke/MethodHandle" ∧ y.cls ≠ "java/lang/invoke/VarHandle" ∧ (parseMethodDescriptor y.desc).map (fun d => d.parameters.length) = some k)
    (hM : Mi l y b n ret rm D tys ws As ws' r) (hk : As.length = k) (hR : rm.frames + 1 ≤ R.frames ∧ 8 + (n + 11) + rm.locals ≤ R.locals) (hrm : rm.cells = 0 ∧ rm.slots = 0) (hls : ls.size = nL) (hst : st = As.reverse ++ rest) (hrest : (rest.map fun v => v.category).sum ≤ 8) (hcl : cells ≤ R.cells ∧ slots ≤ R.slots) (hdg : decode cc pc = .ok (.invokestatic index, 3))
    (kk : ∀ (H1 : Heap) (locs1 : List Loc), Wd D tys A H0 s ws' H1 locs1 → W p l e R s m args below meth c H1 locs1 cells slots Q (F0 m (pc + 3) ls (.int r :: rest))) : W p l e R s m args below meth c H locs cells slots Q (F0 m pc ls st) := by
  subst hst
  have hF := wd_own w
  obtain ⟨hK, hP, hD, hS, hA⟩ := w
  have ok : ∀ w ∈ va_wsS own index y (wM y b n ret), w.before args s = true := fun w h => S.2.2.2.2 w (hG w h).1
  refine va_calli (va_runS (As := As) (rest := rest) S (hM H.size) ⟨callB_of k S.2.2.2.2 (fun w h => hG w (List.mem_append_right _ h)) rfl hrm.1 hrm.2 (ok _ (by simp [va_wsS])) (ok _ (by simp [va_wsS])) hd hR, ok _ (by simp [va_wsS])⟩ ⟨mP_blind, fun U hU hW => ⟨rfl, by rw [hU], by rw [hU]; exact hP, va_K.moved hW.alike hK, hD.weaken (fun _ _ _ _ => trivial)⟩⟩ rfl hk hls rfl (lv_room hrest) hdg ⟨hcl.1, hcl.2⟩) hS (fun q _ h => hF q h) hF (fun r' u t H1 locs1 ht hvm hw hB hz1 hk1 hS => ?_)
  obtain ⟨hP1, hK1, hD1⟩ := hB
  subst hw
  exact kk H1 locs1 ⟨hK, by rw [← ht]; exact hP1, hD1.weaken (fun k q _ h => hF q.1 h), hS, hA⟩
theorem x_Vl {y : MethodName} {b : ByteArray} {n index k h : Nat} {ret : Option FieldType} {rm : Room} {C : String} {As st : List Value} {r : Int64} (S : CallFix p m c cc nL s args wsL_law own) (w : Wd D tys A H0 s ws H locs) (hG : GoodIn wsL_law (wsV own index C y (wM y b n ret))) (hd : y.cls = C ∧ y.cls ≠ "java/lang/invoke/MethodHandle" ∧ y.cls ≠ "java/lang/invoke/VarHandle" ∧ (parseMethodDescriptor y.desc).map (fun d => d.parameters.length) = some k)
    (hM : Ml l y b n ret rm D tys ws (.ref h :: As) ws' r) (hk : As.length = k) (q0 ci : Nat) {qc : vw_C} {fs : List Value} (hc : vwCl[ci]? = some qc) (hq : qc.1 = C) (he : ws[q0]? = some (h, .inr (ci, fs))) (hR : rm.frames + 1 ≤ R.frames ∧ 8 + (n + 11) + rm.locals ≤ R.locals) (hrm : rm.cells = 0 ∧ rm.slots = 0) (hls : ls.size = nL) (hst : st = As.reverse ++ .ref h :: rest) (hrest : (rest.map fun v => v.category).sum ≤ 8) (hcl : cells ≤ R.cells ∧ slots ≤ R.slots) (hdg : decode cc pc = .ok (.invokevirtual index, 3))
    (kk : ∀ (H1 : Heap) (locs1 : List Loc), Wd D tys A H0 s ws' H1 locs1 → W p l e R s m args below meth c H1 locs1 cells slots Q (F0 m (pc + 3) ls (.long r :: rest))) : W p l e R s m args below meth c H locs cells slots Q (F0 m pc ls st) := by
  subst hst
  have hF := wd_own w
  obtain ⟨hK, hP, hD, hS, hA⟩ := w
  subst hq
  refine va_calll (va_runV (As := As) (rest := rest) S (hM H.size) (cwV k S.2.2.2.2 hG rfl hrm.1 hrm.2 hd hR) ⟨mP_blind, va_recv hK hP hc he, fun U hU hW => ⟨rfl, by rw [hU], by rw [hU]; exact hP, va_K.moved hW.alike hK, hD.weaken (fun _ _ _ _ => trivial)⟩⟩ rfl hk hls rfl (lv_room hrest) hdg ⟨hcl.1, hcl.2⟩) hS (fun q _ h => hF q h) hF (fun r' u t H1 locs1 ht hvm hw hB hz1 hk1 hS => ?_)
  obtain ⟨hP1, hK1, hD1⟩ := hB
  subst hw
  exact kk H1 locs1 ⟨hK, by rw [← ht]; exact hP1, hD1.weaken (fun k q _ h => hF q.1 h), hS, hA⟩
theorem x_Sl {y : MethodName} {b : ByteArray} {n index k : Nat} {ret : Option FieldType} {rm : Room} {As st : List Value} {r : Int64} (S : CallFix p m c cc nL s args wsL_law own) (w : Wd D tys A H0 s ws H locs) (hG : GoodIn wsL_law (va_wsS own index y (wM y b n ret))) (hd : y.cls ≠ "java/lang/invoke/MethodHandle" ∧ y.cls ≠ "java/lang/invoke/VarHandle" ∧ (parseMethodDescriptor y.desc).map (fun d => d.parameters.length) = some k)
    (hM : Ml l y b n ret rm D tys ws As ws' r) (hk : As.length = k) (hR : rm.frames + 1 ≤ R.frames ∧ 8 + (n + 11) + rm.locals ≤ R.locals) (hrm : rm.cells = 0 ∧ rm.slots = 0) (hls : ls.size = nL) (hst : st = As.reverse ++ rest) (hrest : (rest.map fun v => v.category).sum ≤ 8) (hcl : cells ≤ R.cells ∧ slots ≤ R.slots) (hdg : decode cc pc = .ok (.invokestatic index, 3))
    (kk : ∀ (H1 : Heap) (locs1 : List Loc), Wd D tys A H0 s ws' H1 locs1 → W p l e R s m args below meth c H1 locs1 cells slots Q (F0 m (pc + 3) ls (.long r :: rest))) : W p l e R s m args below meth c H locs cells slots Q (F0 m pc ls st) := by
  subst hst
  have hF := wd_own w
  obtain ⟨hK, hP, hD, hS, hA⟩ := w
  have ok : ∀ w ∈ va_wsS own index y (wM y b n ret), w.before args s = true := fun w h => S.2.2.2.2 w (hG w h).1
  refine va_calll (va_runS (As := As) (rest := rest) S (hM H.size) ⟨callB_of k S.2.2.2.2 (fun w h => hG w (List.mem_append_right _ h)) rfl hrm.1 hrm.2 (ok _ (by simp [va_wsS])) (ok _ (by simp [va_wsS])) hd hR, ok _ (by simp [va_wsS])⟩ ⟨mP_blind, fun U hU hW => ⟨rfl, by rw [hU], by rw [hU]; exact hP, va_K.moved hW.alike hK, hD.weaken (fun _ _ _ _ => trivial)⟩⟩ rfl hk hls rfl (lv_room hrest) hdg ⟨hcl.1, hcl.2⟩) hS (fun q _ h => hF q h) hF (fun r' u t H1 locs1 ht hvm hw hB hz1 hk1 hS => ?_)
  obtain ⟨hP1, hK1, hD1⟩ := hB
  subst hw
  exact kk H1 locs1 ⟨hK, by rw [← ht]; exact hP1, hD1.weaken (fun k q _ h => hF q.1 h), hS, hA⟩
theorem x_Vv {y : MethodName} {b : ByteArray} {n index k h : Nat} {ret : Option FieldType} {rm : Room} {C : String} {As st : List Value}  (S : CallFix p m c cc nL s args wsL_law own) (w : Wd D tys A H0 s ws H locs) (hG : GoodIn wsL_law (wsV own index C y (wM y b n ret))) (hd : y.cls = C ∧ y.cls ≠ "java/lang/invoke/MethodHandle" ∧ y.cls ≠ "java/lang/invoke/VarHandle" ∧ (parseMethodDescriptor y.desc).map (fun d => d.parameters.length) = some k)
    (hM : Mv l y b n ret rm D tys ws (.ref h :: As) ws') (hk : As.length = k) (q0 ci : Nat) {qc : vw_C} {fs : List Value} (hc : vwCl[ci]? = some qc) (hq : qc.1 = C) (he : ws[q0]? = some (h, .inr (ci, fs))) (hR : rm.frames + 1 ≤ R.frames ∧ 8 + (n + 11) + rm.locals ≤ R.locals) (hrm : rm.cells = 0 ∧ rm.slots = 0) (hls : ls.size = nL) (hst : st = As.reverse ++ .ref h :: rest) (hrest : (rest.map fun v => v.category).sum ≤ 8) (hcl : cells ≤ R.cells ∧ slots ≤ R.slots) (hdg : decode cc pc = .ok (.invokevirtual index, 3))
    (kk : ∀ (H1 : Heap) (locs1 : List Loc), Wd D tys A H0 s ws' H1 locs1 → W p l e R s m args below meth c H1 locs1 cells slots Q (F0 m (pc + 3) ls rest)) : W p l e R s m args below meth c H locs cells slots Q (F0 m pc ls st) := by
  subst hst
  have hF := wd_own w
  obtain ⟨hK, hP, hD, hS, hA⟩ := w
  subst hq
  refine va_callv (va_runV (As := As) (rest := rest) S (hM H.size) (cwV k S.2.2.2.2 hG rfl hrm.1 hrm.2 hd hR) ⟨mP_blind, va_recv hK hP hc he, fun U hU hW => ⟨rfl, by rw [hU], by rw [hU]; exact hP, va_K.moved hW.alike hK, hD.weaken (fun _ _ _ _ => trivial)⟩⟩ rfl hk hls rfl (lv_room hrest) hdg ⟨hcl.1, hcl.2⟩) hS (fun q _ h => hF q h) hF (fun u t H1 locs1 ht hvm hw hB hz1 hk1 hS => ?_)
  obtain ⟨hP1, hK1, hD1⟩ := hB
  exact kk H1 locs1 ⟨hK, by rw [← ht]; exact hP1, hD1.weaken (fun k q _ h => hF q.1 h), hS, hA⟩
theorem x_Sv {y : MethodName} {b : ByteArray} {n index k : Nat} {ret : Option FieldType} {rm : Room} {As st : List Value}  (S : CallFix p m c cc nL s args wsL_law own) (w : Wd D tys A H0 s ws H locs) (hG : GoodIn wsL_law (va_wsS own index y (wM y b n ret))) (hd : y.cls ≠ "java/lang/invoke/MethodHandle" ∧ y.cls ≠ "java/lang/invoke/VarHandle" ∧ (parseMethodDescriptor y.desc).map (fun d => d.parameters.length) = some k)
    (hM : Mv l y b n ret rm D tys ws As ws') (hk : As.length = k) (hR : rm.frames + 1 ≤ R.frames ∧ 8 + (n + 11) + rm.locals ≤ R.locals) (hrm : rm.cells = 0 ∧ rm.slots = 0) (hls : ls.size = nL) (hst : st = As.reverse ++ rest) (hrest : (rest.map fun v => v.category).sum ≤ 8) (hcl : cells ≤ R.cells ∧ slots ≤ R.slots) (hdg : decode cc pc = .ok (.invokestatic index, 3))
    (kk : ∀ (H1 : Heap) (locs1 : List Loc), Wd D tys A H0 s ws' H1 locs1 → W p l e R s m args below meth c H1 locs1 cells slots Q (F0 m (pc + 3) ls rest)) : W p l e R s m args below meth c H locs cells slots Q (F0 m pc ls st) := by
  subst hst
  have hF := wd_own w
  obtain ⟨hK, hP, hD, hS, hA⟩ := w
  have ok : ∀ w ∈ va_wsS own index y (wM y b n ret), w.before args s = true := fun w h => S.2.2.2.2 w (hG w h).1
  refine va_callv (va_runS (As := As) (rest := rest) S (hM H.size) ⟨callB_of k S.2.2.2.2 (fun w h => hG w (List.mem_append_right _ h)) rfl hrm.1 hrm.2 (ok _ (by simp [va_wsS])) (ok _ (by simp [va_wsS])) hd hR, ok _ (by simp [va_wsS])⟩ ⟨mP_blind, fun U hU hW => ⟨rfl, by rw [hU], by rw [hU]; exact hP, va_K.moved hW.alike hK, hD.weaken (fun _ _ _ _ => trivial)⟩⟩ rfl hk hls rfl (lv_room hrest) hdg ⟨hcl.1, hcl.2⟩) hS (fun q _ h => hF q h) hF (fun u t H1 locs1 ht hvm hw hB hz1 hk1 hS => ?_)
  obtain ⟨hP1, hK1, hD1⟩ := hB
  exact kk H1 locs1 ⟨hK, by rw [← ht]; exact hP1, hD1.weaken (fun k q _ h => hF q.1 h), hS, hA⟩
theorem x_Vr {y : MethodName} {b : ByteArray} {n index k h : Nat} {ret : Option FieldType} {rm : Room} {C : String} {As st : List Value} {r : Nat} (S : CallFix p m c cc nL s args wsL_law own) (w : Wd D tys A H0 s ws H locs) (hG : GoodIn wsL_law (wsV own index C y (wM y b n ret))) (hd : y.cls = C ∧ y.cls ≠ "java/lang/invoke/MethodHandle" ∧ y.cls ≠ "java/lang/invoke/VarHandle" ∧ (parseMethodDescriptor y.desc).map (fun d => d.parameters.length) = some k)
    (hM : Mr l y b n ret rm D tys ws (.ref h :: As) ws' r) (hk : As.length = k) (q0 ci : Nat) {qc : vw_C} {fs : List Value} (hc : vwCl[ci]? = some qc) (hq : qc.1 = C) (he : ws[q0]? = some (h, .inr (ci, fs))) (hR : rm.frames + 1 ≤ R.frames ∧ 8 + (n + 11) + rm.locals ≤ R.locals) (hrm : rm.cells = 0 ∧ rm.slots = 0) (hls : ls.size = nL) (hst : st = As.reverse ++ .ref h :: rest) (hrest : (rest.map fun v => v.category).sum ≤ 8) (hcl : cells ≤ R.cells ∧ slots ≤ R.slots) (hdg : decode cc pc = .ok (.invokevirtual index, 3))
    (kk : ∀ (H1 : Heap) (locs1 : List Loc), Wd D tys A H0 s ws' H1 locs1 → W p l e R s m args below meth c H1 locs1 cells slots Q (F0 m (pc + 3) ls (.ref r :: rest))) : W p l e R s m args below meth c H locs cells slots Q (F0 m pc ls st) := by
  subst hst
  have hF := wd_own w
  obtain ⟨hK, hP, hD, hS, hA⟩ := w
  subst hq
  refine va_callr (va_runV (As := As) (rest := rest) S (hM H.size) (cwV k S.2.2.2.2 hG rfl hrm.1 hrm.2 hd hR) ⟨mP_blind, va_recv hK hP hc he, fun U hU hW => ⟨rfl, by rw [hU], by rw [hU]; exact hP, va_K.moved hW.alike hK, hD.weaken (fun _ _ _ _ => trivial)⟩⟩ rfl hk hls rfl (lv_room hrest) hdg ⟨hcl.1, hcl.2⟩) hS (fun q _ h => hF q h) hF (fun u r' t H1 locs1 ht hvm hw hB hz1 hk1 hS => ?_)
  obtain ⟨hw2, hP1, hK1, hD1⟩ := hB
  subst hw2
  exact kk H1 locs1 ⟨hK, by rw [← ht]; exact hP1, hD1.weaken (fun k q _ h => hF q.1 h), hS, hA⟩
theorem x_Sr {y : MethodName} {b : ByteArray} {n index k : Nat} {ret : Option FieldType} {rm : Room} {As st : List Value} {r : Nat} (S : CallFix p m c cc nL s args wsL_law own) (w : Wd D tys A H0 s ws H locs) (hG : GoodIn wsL_law (va_wsS own index y (wM y b n ret))) (hd : y.cls ≠ "java/lang/invoke/MethodHandle" ∧ y.cls ≠ "java/lang/invoke/VarHandle" ∧ (parseMethodDescriptor y.desc).map (fun d => d.parameters.length) = some k)
    (hM : Mr l y b n ret rm D tys ws As ws' r) (hk : As.length = k) (hR : rm.frames + 1 ≤ R.frames ∧ 8 + (n + 11) + rm.locals ≤ R.locals) (hrm : rm.cells = 0 ∧ rm.slots = 0) (hls : ls.size = nL) (hst : st = As.reverse ++ rest) (hrest : (rest.map fun v => v.category).sum ≤ 8) (hcl : cells ≤ R.cells ∧ slots ≤ R.slots) (hdg : decode cc pc = .ok (.invokestatic index, 3))
    (kk : ∀ (H1 : Heap) (locs1 : List Loc), Wd D tys A H0 s ws' H1 locs1 → W p l e R s m args below meth c H1 locs1 cells slots Q (F0 m (pc + 3) ls (.ref r :: rest))) : W p l e R s m args below meth c H locs cells slots Q (F0 m pc ls st) := by
  subst hst
  have hF := wd_own w
  obtain ⟨hK, hP, hD, hS, hA⟩ := w
  have ok : ∀ w ∈ va_wsS own index y (wM y b n ret), w.before args s = true := fun w h => S.2.2.2.2 w (hG w h).1
  refine va_callr (va_runS (As := As) (rest := rest) S (hM H.size) ⟨callB_of k S.2.2.2.2 (fun w h => hG w (List.mem_append_right _ h)) rfl hrm.1 hrm.2 (ok _ (by simp [va_wsS])) (ok _ (by simp [va_wsS])) hd hR, ok _ (by simp [va_wsS])⟩ ⟨mP_blind, fun U hU hW => ⟨rfl, by rw [hU], by rw [hU]; exact hP, va_K.moved hW.alike hK, hD.weaken (fun _ _ _ _ => trivial)⟩⟩ rfl hk hls rfl (lv_room hrest) hdg ⟨hcl.1, hcl.2⟩) hS (fun q _ h => hF q h) hF (fun u r' t H1 locs1 ht hvm hw hB hz1 hk1 hS => ?_)
  obtain ⟨hw2, hP1, hK1, hD1⟩ := hB
  subst hw2
  exact kk H1 locs1 ⟨hK, by rw [← ht]; exact hP1, hD1.weaken (fun k q _ h => hF q.1 h), hS, hA⟩
end BASE
