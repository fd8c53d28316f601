/-! ===== Go: a point of a method, for every heap that has the map ===== -/
/-- the locals -/
def pmLs (ls : Array Slot) (L : pmL) : Prop := ls.size = L.length ∧ lv_wf ls ∧ ∀ (i : Nat) (v : Value), L[i]? = some (some v) → ls[i]? = some (.val v)
def pmLv (L : pmL) : List (Nat × Value) := (List.range L.length).filterMap (fun i => match L[i]? with
  | some (some v) => some (i, v)
  | _ => none)
theorem pmLv_in {L : pmL} {i : Nat} {v : Value} : (i, v) ∈ pmLv L ↔ L[i]? = some (some v) := by
  constructor
  · intro h
    obtain ⟨j, -, hj⟩ := List.mem_filterMap.mp h
    cases hL : L[j]? with
    | none => simp [hL] at hj
    | some x =>
      cases x with
      | none => simp [hL] at hj
      | some u =>
        simp [hL] at hj
        obtain ⟨rfl, rfl⟩ := hj
        exact hL
  · intro h
    refine List.mem_filterMap.mpr ⟨i, List.mem_range.mpr (List.getElem?_eq_some_iff.mp h).1, ?_⟩
    simp [h]
theorem pmLs.has {ls : Array Slot} {L : pmL} (h : pmLs ls L) : lv_has ls L.length (pmLv L) := ⟨h.1, h.2.1, fun q hq => h.2.2 q.1 q.2 (pmLv_in.mp hq)⟩
/-- is the place before i the first half of a long? -/
def pmHalf (L : pmL) : Nat → Bool
  | 0 => false
  | i + 1 => match L[i]? with
    | some (some v) => v.category == 2
    | _ => false
theorem pmHalf_no {L : pmL} {i j : Nat} {v : Value} (h : pmHalf L i = false) (hj : L[j]? = some (some v)) (e : j + 1 = i) : ¬ v.category = 2 := by
  subst e
  simp only [pmHalf, hj] at h
  simpa using h
theorem pmLs.st1 {ls' : Array Slot} {L : pmL} {i : Nat} {v : Value} (hi : i < L.length) (hh : pmHalf L i = false) (h : lv_has ls' L.length ((i, v) :: (pmLv L).filter (fun q => !(q.1 == i) && !(q.1 + 1 == i && q.2.category == 2)))) : pmLs ls' (L.set i (some v)) := by
  refine ⟨by rw [h.1, List.length_set], h.2.1, fun j u hj => ?_⟩
  by_cases e : j = i
  · subst e
    rw [List.getElem?_set_self hi] at hj
    cases hj
    exact h.2.2 (j, _) List.mem_cons_self
  · rw [List.getElem?_set_ne (fun q => e q.symm)] at hj
    refine h.2.2 (j, u) (List.mem_cons_of_mem _ (List.mem_filter.mpr ⟨pmLv_in.mpr hj, ?_⟩))
    have h2 := fun q => pmHalf_no hh hj q
    simp only [Bool.and_eq_true, Bool.not_eq_true', beq_eq_false_iff_ne, ne_eq, e, not_false_eq_true, true_and, Bool.and_eq_false_iff]
    by_cases e2 : j + 1 = i
    · exact Or.inr (h2 e2)
    · exact Or.inl e2
theorem pmLs.st2 {ls' : Array Slot} {L : pmL} {i : Nat} {v : Value} (hi : i + 1 < L.length) (hh : pmHalf L i = false) (h : lv_has ls' L.length ((i, v) :: (pmLv L).filter (fun q => !(q.1 == i) && (!(q.1 == i + 1) && !(q.1 + 1 == i && q.2.category == 2))))) : pmLs ls' ((L.set i (some v)).set (i + 1) none) := by
  refine ⟨by rw [h.1, List.length_set, List.length_set], h.2.1, fun j u hj => ?_⟩
  by_cases e1 : j = i + 1
  · subst e1
    rw [List.getElem?_set_self (by rw [List.length_set]; exact hi)] at hj
    cases hj
  · rw [List.getElem?_set_ne (fun q => e1 q.symm)] at hj
    by_cases e : j = i
    · subst e
      rw [List.getElem?_set_self (by omega)] at hj
      cases hj
      exact h.2.2 (j, _) List.mem_cons_self
    · rw [List.getElem?_set_ne (fun q => e q.symm)] at hj
      refine h.2.2 (j, u) (List.mem_cons_of_mem _ (List.mem_filter.mpr ⟨pmLv_in.mpr hj, ?_⟩))
      have h2 := fun q => pmHalf_no hh hj q
      simp only [Bool.and_eq_true, Bool.not_eq_true', beq_eq_false_iff_ne, ne_eq, e, e1, not_false_eq_true, true_and, Bool.and_eq_false_iff]
      by_cases e2 : j + 1 = i
      · exact Or.inr (h2 e2)
      · exact Or.inl e2
/-- a method that runs: which; the map at its entry; how many cells and slots it may make -/
abbrev pmFr : Type := pmMeth × pmH × Nat × Nat
def pmIs (E : pmEv) (F : pmFr) (p : Program) (R : Room) (s : State) (m : MethodId) (args : Array Value) (meth : Method) (c : Code) : Prop :=
  p.tables.exec = Jvm.exec ∧ c.code = F.1.2.1 ∧ c.maxLocals = F.1.2.2.1 ∧ meth.sig.returnType = F.1.2.2.2.1 ∧ meth.locks = false ∧
  c.exceptionTable.toList.map (fun h => (h.startPc, h.endPc, h.handlerPc, h.catchType)) = F.1.2.2.2.2.1 ∧
  s.vm.findClass F.1.1.cls = some m.cls ∧ meth.name = F.1.1.name ∧ (∀ w ∈ pmW, w.before args s = true) ∧ pmKn E s ∧
  (R.frames = F.1.2.2.2.2.2.2.2.1 ∧ R.locals = F.1.2.2.2.2.2.2.2.2 ∧ R.cells = F.2.2.1 ∧ R.slots = F.2.2.2) ∧ E.1.flags = pinnedFlags ++ [noTraceFlag] ∧ pmHI E s F.2.1 s.heap
def pmAt (E : pmEv) (F : pmFr) (s : State) (S : pmS) (H : Heap) (locs : List Loc) : Prop :=
  pmHI E s S.1 H ∧ (∀ n, S.2.1 = some n → H.size = n) ∧ va_S (pmA0 E) s.heap H locs ∧ (S.2.2 = false → locs = [] ∧ S.1 = F.2.1)
def pmOc (U t : State) (o : pmA) (oc : Outcome) : Prop := match o with
  | .inl v => oc = .returned v
  | .inr x => ∃ (a : Addr) (ce : Cell), oc = .threw a ∧ t.heap[a]? = some ce ∧ ce.vm.isStatics = false ∧ U.vm.findClass (pmXs.getD x "") = some ce.cls
def pmEnd (E : pmEv) (hm : pmH) (mc ms : Nat) (Q : pmA → pmS → Prop) (st : State) (oc : Outcome) (t : State) : Prop :=
  ∃ (o : pmA) (S : pmS), Q o S ∧ pmOc st t o oc ∧ st.WarmedH t.vm ∧ (∃ L : List Loc, st.sameButNew ({ t with vm := st.vm } : State) L mc ms ∧ (∀ q ∈ L, E.2.1 ≤ q.base) ∧ (S.2.2 = false → L = [] ∧ S.1 = hm)) ∧
    pmHI E st S.1 t.heap ∧ (∀ n, S.2.1 = some n → t.heap.size = n) ∧ va_F (pmA0 E) st t
def pmZ (E : pmEv) (F : pmFr) (Q : pmA → pmS → Prop) (below : List Frame) (s : State) : State → Prop := fun t => ∃ oc, t.status = .running ∧ Ended t below oc ∧ pmEnd E F.2.1 F.2.2.1 F.2.2.2 Q s oc t
def Go (E : pmEv) (F : pmFr) (pc : Nat) (L : pmL) (st : List Value) (S : pmS) (k n : Nat) (Q : pmA → pmS → Prop) : Prop :=
  ∀ (p : Program) (e : Env) (R : Room) (s : State) (m : MethodId) (args : Array Value) (below : List Frame) (meth : Method) (c : Code) (H : Heap) (locs : List Loc) (ls : Array Slot),
    pmIs E F p R s m args meth c → pmAt E F s S H locs → pmLs ls L → L.length = F.1.2.2.1 → W p E.1 e R s m args below meth c H locs k n (pmZ E F Q below s) (F0 m pc ls st)
section GO
variable {E : pmEv} {F : pmFr} {pc : Nat} {L : pmL} {st : List Value} {S : pmS} {k n : Nat} {Q : pmA → pmS → Prop}
theorem go_at {pc' : Nat} {L' : pmL} {st' : List Value} {S' : pmS} (h : Go E F pc' L' st' S' k n Q) (h1 : pc = pc' := by rfl) (h2 : L = L' := by rfl) (h3 : st = st' := by rfl) (h4 : S = S' := by rfl) : Go E F pc L st S k n Q := by
  subst h1; subst h2; subst h3; subst h4; exact h
theorem go_null  {pc' : Nat} (hd : decode F.1.2.1 pc = .ok (.aconst_null, 1)) (h : Go E F pc' L (.null :: st) S k n Q) (hp : pc + 1 = pc' := by rfl) : Go E F pc L (st) S k n Q := by
  intro p e R s m args below meth c H locs ls hI hA hL hn
  subst hp
  exact lv_null hI.1 hI.2.1 hd (h p e R s m args below meth c H locs ls hI hA hL hn)
theorem go_iconst {z : Int} {v : Int32} {pc' : Nat} (hd : decode F.1.2.1 pc = .ok (.iconst z, 1)) (hv : Int32.ofInt z = v) (h : Go E F pc' L (.int v :: st) S k n Q) (hp : pc + 1 = pc' := by rfl) : Go E F pc L (st) S k n Q := by
  intro p e R s m args below meth c H locs ls hI hA hL hn
  subst hp
  exact lv_iconst hI.1 hI.2.1 hd hv (h p e R s m args below meth c H locs ls hI hA hL hn)
theorem go_bipush {z : Int} {v : Int32} {pc' : Nat} (hd : decode F.1.2.1 pc = .ok (.bipush z, 2)) (hv : (Int8.ofInt z).toInt32 = v) (h : Go E F pc' L (.int v :: st) S k n Q) (hp : pc + 2 = pc' := by rfl) : Go E F pc L (st) S k n Q := by
  intro p e R s m args below meth c H locs ls hI hA hL hn
  subst hp
  exact lv_bipush hI.1 hI.2.1 hd hv (h p e R s m args below meth c H locs ls hI hA hL hn)
theorem go_sipush {z : Int} {v : Int32} {pc' : Nat} (hd : decode F.1.2.1 pc = .ok (.sipush z, 3)) (hv : (Int16.ofInt z).toInt32 = v) (h : Go E F pc' L (.int v :: st) S k n Q) (hp : pc + 3 = pc' := by rfl) : Go E F pc L (st) S k n Q := by
  intro p e R s m args below meth c H locs ls hI hA hL hn
  subst hp
  exact lv_sipush hI.1 hI.2.1 hd hv (h p e R s m args below meth c H locs ls hI hA hL hn)
theorem go_lconst {z : Fin 2} {v : Int64} {pc' : Nat} (hd : decode F.1.2.1 pc = .ok (.lconst z, 1)) (hv : Int64.ofNat (z : Nat) = v) (h : Go E F pc' L (.long v :: st) S k n Q) (hp : pc + 1 = pc' := by rfl) : Go E F pc L (st) S k n Q := by
  intro p e R s m args below meth c H locs ls hI hA hL hn
  subst hp
  exact lv_lconst hI.1 hI.2.1 hd hv (h p e R s m args below meth c H locs ls hI hA hL hn)
theorem go_ldc {x : Nat} {v : Int32} {pc' : Nat} (hd : decode F.1.2.1 pc = .ok (.ldc x, 2)) (hc : Cond.constant F.1.1.cls x v ∈ pmW) (h : Go E F pc' L (.int v :: st) S k n Q) (hp : pc + 2 = pc' := by rfl) : Go E F pc L (st) S k n Q := by
  intro p e R s m args below meth c H locs ls hI hA hL hn
  subst hp
  exact lv_ldc hI.1 hI.2.1 (hI.2.2.2.2.2.2.1) (hI.2.2.2.2.2.2.2.2.1 _ hc) hd (h p e R s m args below meth c H locs ls hI hA hL hn)
theorem go_ldcw {x : Nat} {v : Int32} {pc' : Nat} (hd : decode F.1.2.1 pc = .ok (.ldc_w x, 3)) (hc : Cond.constant F.1.1.cls x v ∈ pmW) (h : Go E F pc' L (.int v :: st) S k n Q) (hp : pc + 3 = pc' := by rfl) : Go E F pc L (st) S k n Q := by
  intro p e R s m args below meth c H locs ls hI hA hL hn
  subst hp
  exact lv_ldcw hI.1 hI.2.1 (hI.2.2.2.2.2.2.1) (hI.2.2.2.2.2.2.2.2.1 _ hc) hd (h p e R s m args below meth c H locs ls hI hA hL hn)
theorem go_ldc2 {x : Nat} {v : Int64} {pc' : Nat} (hd : decode F.1.2.1 pc = .ok (.ldc2_w x, 3)) (hc : Cond.constantLong F.1.1.cls x v ∈ pmW) (h : Go E F pc' L (.long v :: st) S k n Q) (hp : pc + 3 = pc' := by rfl) : Go E F pc L (st) S k n Q := by
  intro p e R s m args below meth c H locs ls hI hA hL hn
  subst hp
  exact lv_ldc2 hI.1 hI.2.1 (hI.2.2.2.2.2.2.1) (hI.2.2.2.2.2.2.2.2.1 _ hc) hd (h p e R s m args below meth c H locs ls hI hA hL hn)
theorem go_iload {i : Nat} {x : Int32} {pc' : Nat} (hd : decode F.1.2.1 pc = .ok (.iload i, 2)) (hl : L[i]? = some (some (.int x))) (h : Go E F pc' L (.int x :: st) S k n Q) (hp : pc + 2 = pc' := by rfl) : Go E F pc L (st) S k n Q := by
  intro p e R s m args below meth c H locs ls hI hA hL hn
  subst hp
  exact lv_iload hI.1 hI.2.1 hd (hL.2.2 i _ hl) (h p e R s m args below meth c H locs ls hI hA hL hn)
theorem go_aload {i : Nat} {x : Nat} {pc' : Nat} (hd : decode F.1.2.1 pc = .ok (.aload i, 2)) (hl : L[i]? = some (some (.ref x))) (h : Go E F pc' L (.ref x :: st) S k n Q) (hp : pc + 2 = pc' := by rfl) : Go E F pc L (st) S k n Q := by
  intro p e R s m args below meth c H locs ls hI hA hL hn
  subst hp
  exact lv_aload hI.1 hI.2.1 hd (hL.2.2 i _ hl) (h p e R s m args below meth c H locs ls hI hA hL hn)
theorem go_iload_n {j : Fin 4} {x : Int32} {pc' : Nat} (hd : decode F.1.2.1 pc = .ok (.iload_n j, 1)) (hl : L[(j : Nat)]? = some (some (.int x))) (h : Go E F pc' L (.int x :: st) S k n Q) (hp : pc + 1 = pc' := by rfl) : Go E F pc L (st) S k n Q := by
  intro p e R s m args below meth c H locs ls hI hA hL hn
  subst hp
  exact lv_iload_n hI.1 hI.2.1 hd rfl (hL.2.2 j _ hl) (h p e R s m args below meth c H locs ls hI hA hL hn)
theorem go_lload_n {j : Fin 4} {x : Int64} {pc' : Nat} (hd : decode F.1.2.1 pc = .ok (.lload_n j, 1)) (hl : L[(j : Nat)]? = some (some (.long x))) (h : Go E F pc' L (.long x :: st) S k n Q) (hp : pc + 1 = pc' := by rfl) : Go E F pc L (st) S k n Q := by
  intro p e R s m args below meth c H locs ls hI hA hL hn
  subst hp
  exact lv_lload_n hI.1 hI.2.1 hd rfl (hL.2.2 j _ hl) (h p e R s m args below meth c H locs ls hI hA hL hn)
theorem go_aload_n {j : Fin 4} {x : Nat} {pc' : Nat} (hd : decode F.1.2.1 pc = .ok (.aload_n j, 1)) (hl : L[(j : Nat)]? = some (some (.ref x))) (h : Go E F pc' L (.ref x :: st) S k n Q) (hp : pc + 1 = pc' := by rfl) : Go E F pc L (st) S k n Q := by
  intro p e R s m args below meth c H locs ls hI hA hL hn
  subst hp
  exact lv_aload_n hI.1 hI.2.1 hd rfl (hL.2.2 j _ hl) (h p e R s m args below meth c H locs ls hI hA hL hn)
theorem go_istore {i : Nat} {x : Int32} {pc' : Nat} {L' : pmL} (hd : decode F.1.2.1 pc = .ok (.istore i, 2)) (h : Go E F pc' L' st S k n Q) (hL' : (L.set i (some (.int x))) = L' := by rfl) (hi : i < L.length := by exact Nat.le_of_ble_eq_true rfl) (hh : pmHalf L i = false := by rfl) (hp : pc + 2 = pc' := by rfl) : Go E F pc L (.int x :: st) S k n Q := by
  intro p e R s m args below meth c H locs ls hI hA hL hn
  subst hp
  subst hL'
  refine lv_istore hI.1 hI.2.1 hd hL.has (by exact hi) rfl (fun ls' hl' => ?_)
  exact h p e R s m args below meth c H locs ls' hI hA (pmLs.st1 hi hh hl') (by simpa using hn)
theorem go_istore_n {j : Fin 4} {x : Int32} {pc' : Nat} {L' : pmL} (hd : decode F.1.2.1 pc = .ok (.istore_n j, 1)) (h : Go E F pc' L' st S k n Q) (hL' : (L.set (j : Nat) (some (.int x))) = L' := by rfl) (hi : (j : Nat) < L.length := by exact Nat.le_of_ble_eq_true rfl) (hh : pmHalf L (j : Nat) = false := by rfl) (hp : pc + 1 = pc' := by rfl) : Go E F pc L (.int x :: st) S k n Q := by
  intro p e R s m args below meth c H locs ls hI hA hL hn
  subst hp
  subst hL'
  refine lv_istore_n hI.1 hI.2.1 hd rfl hL.has (by exact hi) rfl (fun ls' hl' => ?_)
  exact h p e R s m args below meth c H locs ls' hI hA (pmLs.st1 hi hh hl') (by simpa using hn)
theorem go_lstore_n {j : Fin 4} {x : Int64} {pc' : Nat} {L' : pmL} (hd : decode F.1.2.1 pc = .ok (.lstore_n j, 1)) (h : Go E F pc' L' st S k n Q) (hL' : ((L.set (j : Nat) (some (.long x))).set ((j : Nat) + 1) none) = L' := by rfl) (hi : (j : Nat) + 1 < L.length := by exact Nat.le_of_ble_eq_true rfl) (hh : pmHalf L (j : Nat) = false := by rfl) (hp : pc + 1 = pc' := by rfl) : Go E F pc L (.long x :: st) S k n Q := by
  intro p e R s m args below meth c H locs ls hI hA hL hn
  subst hp
  subst hL'
  refine lv_lstore_n hI.1 hI.2.1 hd rfl hL.has (by exact hi) rfl (fun ls' hl' => ?_)
  exact h p e R s m args below meth c H locs ls' hI hA (pmLs.st2 hi hh hl') (by simpa using hn)
theorem go_astore {i : Nat} {x : Nat} {pc' : Nat} {L' : pmL} (hd : decode F.1.2.1 pc = .ok (.astore i, 2)) (h : Go E F pc' L' st S k n Q) (hL' : (L.set i (some (.ref x))) = L' := by rfl) (hi : i < L.length := by exact Nat.le_of_ble_eq_true rfl) (hh : pmHalf L i = false := by rfl) (hp : pc + 2 = pc' := by rfl) : Go E F pc L (.ref x :: st) S k n Q := by
  intro p e R s m args below meth c H locs ls hI hA hL hn
  subst hp
  subst hL'
  refine lv_astore hI.1 hI.2.1 hd hL.has (by exact hi) rfl (fun ls' hl' => ?_)
  exact h p e R s m args below meth c H locs ls' hI hA (pmLs.st1 hi hh hl') (by simpa using hn)
theorem go_astore_n {j : Fin 4} {x : Nat} {pc' : Nat} {L' : pmL} (hd : decode F.1.2.1 pc = .ok (.astore_n j, 1)) (h : Go E F pc' L' st S k n Q) (hL' : (L.set (j : Nat) (some (.ref x))) = L' := by rfl) (hi : (j : Nat) < L.length := by exact Nat.le_of_ble_eq_true rfl) (hh : pmHalf L (j : Nat) = false := by rfl) (hp : pc + 1 = pc' := by rfl) : Go E F pc L (.ref x :: st) S k n Q := by
  intro p e R s m args below meth c H locs ls hI hA hL hn
  subst hp
  subst hL'
  refine lv_astore_n hI.1 hI.2.1 hd rfl hL.has (by exact hi) rfl (fun ls' hl' => ?_)
  exact h p e R s m args below meth c H locs ls' hI hA (pmLs.st1 hi hh hl') (by simpa using hn)
theorem go_iinc {i : Nat} {z : Int} {x v : Int32} {pc' : Nat} {L' : pmL} (hd : decode F.1.2.1 pc = .ok (.iinc i z, 3)) (hl : L[i]? = some (some (.int x))) (hv : x + Int32.ofInt z = v) (h : Go E F pc' L' st S k n Q) (hL' : L.set i (some (.int v)) = L' := by rfl) (hh : pmHalf L i = false := by rfl) (hp : pc + 3 = pc' := by rfl) : Go E F pc L st S k n Q := by
  intro p e R s m args below meth c H locs ls hI hA hL hn
  subst hp
  subst hL'
  have hi : i < L.length := (List.getElem?_eq_some_iff.mp hl).1
  obtain ⟨q, hq⟩ := List.getElem?_of_mem (pmLv_in.mpr hl)
  refine lv_iinc hI.1 hI.2.1 hd hL.has hq hv hi rfl (fun ls' hl' => ?_)
  exact h p e R s m args below meth c H locs ls' hI hA (pmLs.st1 hi hh hl') (by simpa using hn)
theorem go_dup {v : Value} {pc' : Nat} (hd : decode F.1.2.1 pc = .ok (.dup, 1)) (hv : v.category = 1) (h : Go E F pc' L (v :: v :: st) S k n Q) (hp : pc + 1 = pc' := by rfl) : Go E F pc L (v :: st) S k n Q := by
  intro p e R s m args below meth c H locs ls hI hA hL hn
  subst hp
  exact lv_dup hI.1 hI.2.1 hd hv (h p e R s m args below meth c H locs ls hI hA hL hn)
theorem go_dup2 {v u : Value} {pc' : Nat} (hd : decode F.1.2.1 pc = .ok (.dup2, 1)) (hv : v.category = 1) (hu : u.category = 1) (h : Go E F pc' L (v :: u :: v :: u :: st) S k n Q) (hp : pc + 1 = pc' := by rfl) : Go E F pc L (v :: u :: st) S k n Q := by
  intro p e R s m args below meth c H locs ls hI hA hL hn
  subst hp
  exact lv_dup2_11 hI.1 hI.2.1 hd hv hu (h p e R s m args below meth c H locs ls hI hA hL hn)
theorem go_iadd {x y : Int32} {pc' : Nat} (hd : decode F.1.2.1 pc = .ok (.iadd, 1)) (h : Go E F pc' L (.int (x + y) :: st) S k n Q) (hp : pc + 1 = pc' := by rfl) : Go E F pc L (.int y :: .int x :: st) S k n Q := by
  intro p e R s m args below meth c H locs ls hI hA hL hn
  subst hp
  exact lv_iadd hI.1 hI.2.1 hd (h p e R s m args below meth c H locs ls hI hA hL hn)
theorem go_isub {x y : Int32} {pc' : Nat} (hd : decode F.1.2.1 pc = .ok (.isub, 1)) (h : Go E F pc' L (.int (x - y) :: st) S k n Q) (hp : pc + 1 = pc' := by rfl) : Go E F pc L (.int y :: .int x :: st) S k n Q := by
  intro p e R s m args below meth c H locs ls hI hA hL hn
  subst hp
  exact lv_isub hI.1 hI.2.1 hd (h p e R s m args below meth c H locs ls hI hA hL hn)
theorem go_imul {x y : Int32} {pc' : Nat} (hd : decode F.1.2.1 pc = .ok (.imul, 1)) (h : Go E F pc' L (.int (x * y) :: st) S k n Q) (hp : pc + 1 = pc' := by rfl) : Go E F pc L (.int y :: .int x :: st) S k n Q := by
  intro p e R s m args below meth c H locs ls hI hA hL hn
  subst hp
  exact lv_imul hI.1 hI.2.1 hd (h p e R s m args below meth c H locs ls hI hA hL hn)
theorem go_iand {x y : Int32} {pc' : Nat} (hd : decode F.1.2.1 pc = .ok (.iand, 1)) (h : Go E F pc' L (.int (x &&& y) :: st) S k n Q) (hp : pc + 1 = pc' := by rfl) : Go E F pc L (.int y :: .int x :: st) S k n Q := by
  intro p e R s m args below meth c H locs ls hI hA hL hn
  subst hp
  exact lv_iand hI.1 hI.2.1 hd (h p e R s m args below meth c H locs ls hI hA hL hn)
theorem go_ior {x y : Int32} {pc' : Nat} (hd : decode F.1.2.1 pc = .ok (.ior, 1)) (h : Go E F pc' L (.int (x ||| y) :: st) S k n Q) (hp : pc + 1 = pc' := by rfl) : Go E F pc L (.int y :: .int x :: st) S k n Q := by
  intro p e R s m args below meth c H locs ls hI hA hL hn
  subst hp
  exact lv_ior hI.1 hI.2.1 hd (h p e R s m args below meth c H locs ls hI hA hL hn)
theorem go_ixor {x y : Int32} {pc' : Nat} (hd : decode F.1.2.1 pc = .ok (.ixor, 1)) (h : Go E F pc' L (.int (x ^^^ y) :: st) S k n Q) (hp : pc + 1 = pc' := by rfl) : Go E F pc L (.int y :: .int x :: st) S k n Q := by
  intro p e R s m args below meth c H locs ls hI hA hL hn
  subst hp
  exact lv_ixor hI.1 hI.2.1 hd (h p e R s m args below meth c H locs ls hI hA hL hn)
theorem go_ishl {x y : Int32} {pc' : Nat} (hd : decode F.1.2.1 pc = .ok (.ishl, 1)) (h : Go E F pc' L (.int (x <<< (y &&& 31)) :: st) S k n Q) (hp : pc + 1 = pc' := by rfl) : Go E F pc L (.int y :: .int x :: st) S k n Q := by
  intro p e R s m args below meth c H locs ls hI hA hL hn
  subst hp
  exact lv_ishl hI.1 hI.2.1 hd (h p e R s m args below meth c H locs ls hI hA hL hn)
theorem go_ishr {x y : Int32} {pc' : Nat} (hd : decode F.1.2.1 pc = .ok (.ishr, 1)) (h : Go E F pc' L (.int (x >>> (y &&& 31)) :: st) S k n Q) (hp : pc + 1 = pc' := by rfl) : Go E F pc L (.int y :: .int x :: st) S k n Q := by
  intro p e R s m args below meth c H locs ls hI hA hL hn
  subst hp
  exact lv_ishr hI.1 hI.2.1 hd (h p e R s m args below meth c H locs ls hI hA hL hn)
theorem go_iushr {x y : Int32} {pc' : Nat} (hd : decode F.1.2.1 pc = .ok (.iushr, 1)) (h : Go E F pc' L (.int (x.toUInt32 >>> (y.toUInt32 &&& Int32.toUInt32 31)).toInt32 :: st) S k n Q) (hp : pc + 1 = pc' := by rfl) : Go E F pc L (.int y :: .int x :: st) S k n Q := by
  intro p e R s m args below meth c H locs ls hI hA hL hn
  subst hp
  exact lv_iushr hI.1 hI.2.1 hd rfl (h p e R s m args below meth c H locs ls hI hA hL hn)
theorem go_idiv {x y : Int32} {pc' : Nat} (hd : decode F.1.2.1 pc = .ok (.idiv, 1)) (hy : ¬ y = 0) (h : Go E F pc' L (.int (x / y) :: st) S k n Q) (hp : pc + 1 = pc' := by rfl) : Go E F pc L (.int y :: .int x :: st) S k n Q := by
  intro p e R s m args below meth c H locs ls hI hA hL hn
  subst hp
  exact lv_idiv hI.1 hI.2.1 hd hy (h p e R s m args below meth c H locs ls hI hA hL hn)
theorem go_irem {x y : Int32} {pc' : Nat} (hd : decode F.1.2.1 pc = .ok (.irem, 1)) (hy : ¬ y = 0) (h : Go E F pc' L (.int (x - x / y * y) :: st) S k n Q) (hp : pc + 1 = pc' := by rfl) : Go E F pc L (.int y :: .int x :: st) S k n Q := by
  intro p e R s m args below meth c H locs ls hI hA hL hn
  subst hp
  exact lv_irem hI.1 hI.2.1 hd hy (h p e R s m args below meth c H locs ls hI hA hL hn)
theorem go_lsub {x y : Int64} {pc' : Nat} (hd : decode F.1.2.1 pc = .ok (.lsub, 1)) (h : Go E F pc' L (.long (x - y) :: st) S k n Q) (hp : pc + 1 = pc' := by rfl) : Go E F pc L (.long y :: .long x :: st) S k n Q := by
  intro p e R s m args below meth c H locs ls hI hA hL hn
  subst hp
  exact lv_lsub hI.1 hI.2.1 hd (h p e R s m args below meth c H locs ls hI hA hL hn)
theorem go_lxor {x y : Int64} {pc' : Nat} (hd : decode F.1.2.1 pc = .ok (.lxor, 1)) (h : Go E F pc' L (.long (x ^^^ y) :: st) S k n Q) (hp : pc + 1 = pc' := by rfl) : Go E F pc L (.long y :: .long x :: st) S k n Q := by
  intro p e R s m args below meth c H locs ls hI hA hL hn
  subst hp
  exact lv_lxor hI.1 hI.2.1 hd (h p e R s m args below meth c H locs ls hI hA hL hn)
theorem go_ldiv {x y : Int64} {pc' : Nat} (hd : decode F.1.2.1 pc = .ok (.ldiv, 1)) (hy : ¬ y = 0) (h : Go E F pc' L (.long (x / y) :: st) S k n Q) (hp : pc + 1 = pc' := by rfl) : Go E F pc L (.long y :: .long x :: st) S k n Q := by
  intro p e R s m args below meth c H locs ls hI hA hL hn
  subst hp
  exact lv_ldiv hI.1 hI.2.1 hd hy (h p e R s m args below meth c H locs ls hI hA hL hn)
theorem go_lrem {x y : Int64} {pc' : Nat} (hd : decode F.1.2.1 pc = .ok (.lrem, 1)) (hy : ¬ y = 0) (h : Go E F pc' L (.long (x - x / y * y) :: st) S k n Q) (hp : pc + 1 = pc' := by rfl) : Go E F pc L (.long y :: .long x :: st) S k n Q := by
  intro p e R s m args below meth c H locs ls hI hA hL hn
  subst hp
  exact lv_lrem hI.1 hI.2.1 hd hy (h p e R s m args below meth c H locs ls hI hA hL hn)
theorem go_i2l {x : Int32} {pc' : Nat} (hd : decode F.1.2.1 pc = .ok (.i2l, 1)) (h : Go E F pc' L (.long x.toInt64 :: st) S k n Q) (hp : pc + 1 = pc' := by rfl) : Go E F pc L (.int x :: st) S k n Q := by
  intro p e R s m args below meth c H locs ls hI hA hL hn
  subst hp
  exact lv_i2l hI.1 hI.2.1 hd rfl (h p e R s m args below meth c H locs ls hI hA hL hn)
theorem go_l2i {x : Int64} {pc' : Nat} (hd : decode F.1.2.1 pc = .ok (.l2i, 1)) (h : Go E F pc' L (.int x.toInt32 :: st) S k n Q) (hp : pc + 1 = pc' := by rfl) : Go E F pc L (.long x :: st) S k n Q := by
  intro p e R s m args below meth c H locs ls hI hA hL hn
  subst hp
  exact lv_l2i hI.1 hI.2.1 hd rfl (h p e R s m args below meth c H locs ls hI hA hL hn)
theorem go_lcmp {x y : Int64} {pc' : Nat} (hd : decode F.1.2.1 pc = .ok (.lcmp, 1)) (h : Go E F pc' L (.int (lg_cmp x y) :: st) S k n Q) (hp : pc + 1 = pc' := by rfl) : Go E F pc L (.long y :: .long x :: st) S k n Q := by
  intro p e R s m args below meth c H locs ls hI hA hL hn
  subst hp
  exact W.lcmp hI.1 hI.2.1 hd (h p e R s m args below meth c H locs ls hI hA hL hn)
theorem go_goto {off : Int} {tgt : Nat} (hd : decode F.1.2.1 pc = .ok (.goto off, 3)) (h : Go E F tgt L st S k n Q) (ht : (pc : Int) + off = (tgt : Int) := by decide) : Go E F pc L st S k n Q := by
  intro p e R s m args below meth c H locs ls hI hA hL hn
  exact lv_goto hI.1 hI.2.1 hd ht (h p e R s m args below meth c H locs ls hI hA hL hn)
theorem go_icmp_eq {x y : Int32} {off : Int} {tgt pc' : Nat} (hd : decode F.1.2.1 pc = .ok (.if_icmp .eq off, 3)) (kt : x = y → Go E F tgt L st S k n Q) (kf : ¬ x = y → Go E F pc' L st S k n Q) (ht : (pc : Int) + off = (tgt : Int) := by decide) (hp : pc + 3 = pc' := by rfl) : Go E F pc L (.int y :: .int x :: st) S k n Q := by
  intro p e R s m args below meth c H locs ls hI hA hL hn
  subst hp
  exact lv_icmp_eq hI.1 hI.2.1 hd ht (fun q => kt q p e R s m args below meth c H locs ls hI hA hL hn) (fun q => kf q p e R s m args below meth c H locs ls hI hA hL hn)
theorem go_if_eq {x : Int32} {off : Int} {tgt pc' : Nat} (hd : decode F.1.2.1 pc = .ok (.ifCond .eq off, 3)) (kt : x = 0 → Go E F tgt L st S k n Q) (kf : ¬ x = 0 → Go E F pc' L st S k n Q) (ht : (pc : Int) + off = (tgt : Int) := by decide) (hp : pc + 3 = pc' := by rfl) : Go E F pc L (.int x :: st) S k n Q := by
  intro p e R s m args below meth c H locs ls hI hA hL hn
  subst hp
  exact lv_if_eq hI.1 hI.2.1 hd ht (fun q => kt q p e R s m args below meth c H locs ls hI hA hL hn) (fun q => kf q p e R s m args below meth c H locs ls hI hA hL hn)
theorem go_icmp_ne {x y : Int32} {off : Int} {tgt pc' : Nat} (hd : decode F.1.2.1 pc = .ok (.if_icmp .ne off, 3)) (kt : ¬ x = y → Go E F tgt L st S k n Q) (kf : x = y → Go E F pc' L st S k n Q) (ht : (pc : Int) + off = (tgt : Int) := by decide) (hp : pc + 3 = pc' := by rfl) : Go E F pc L (.int y :: .int x :: st) S k n Q := by
  intro p e R s m args below meth c H locs ls hI hA hL hn
  subst hp
  exact lv_icmp_ne hI.1 hI.2.1 hd ht (fun q => kt q p e R s m args below meth c H locs ls hI hA hL hn) (fun q => kf q p e R s m args below meth c H locs ls hI hA hL hn)
theorem go_if_ne {x : Int32} {off : Int} {tgt pc' : Nat} (hd : decode F.1.2.1 pc = .ok (.ifCond .ne off, 3)) (kt : ¬ x = 0 → Go E F tgt L st S k n Q) (kf : x = 0 → Go E F pc' L st S k n Q) (ht : (pc : Int) + off = (tgt : Int) := by decide) (hp : pc + 3 = pc' := by rfl) : Go E F pc L (.int x :: st) S k n Q := by
  intro p e R s m args below meth c H locs ls hI hA hL hn
  subst hp
  exact lv_if_ne hI.1 hI.2.1 hd ht (fun q => kt q p e R s m args below meth c H locs ls hI hA hL hn) (fun q => kf q p e R s m args below meth c H locs ls hI hA hL hn)
theorem go_icmp_lt {x y : Int32} {off : Int} {tgt pc' : Nat} (hd : decode F.1.2.1 pc = .ok (.if_icmp .lt off, 3)) (kt : x < y → Go E F tgt L st S k n Q) (kf : ¬ x < y → Go E F pc' L st S k n Q) (ht : (pc : Int) + off = (tgt : Int) := by decide) (hp : pc + 3 = pc' := by rfl) : Go E F pc L (.int y :: .int x :: st) S k n Q := by
  intro p e R s m args below meth c H locs ls hI hA hL hn
  subst hp
  exact lv_icmp_lt hI.1 hI.2.1 hd ht (fun q => kt q p e R s m args below meth c H locs ls hI hA hL hn) (fun q => kf q p e R s m args below meth c H locs ls hI hA hL hn)
theorem go_if_lt {x : Int32} {off : Int} {tgt pc' : Nat} (hd : decode F.1.2.1 pc = .ok (.ifCond .lt off, 3)) (kt : x < 0 → Go E F tgt L st S k n Q) (kf : ¬ x < 0 → Go E F pc' L st S k n Q) (ht : (pc : Int) + off = (tgt : Int) := by decide) (hp : pc + 3 = pc' := by rfl) : Go E F pc L (.int x :: st) S k n Q := by
  intro p e R s m args below meth c H locs ls hI hA hL hn
  subst hp
  exact lv_if_lt hI.1 hI.2.1 hd ht (fun q => kt q p e R s m args below meth c H locs ls hI hA hL hn) (fun q => kf q p e R s m args below meth c H locs ls hI hA hL hn)
theorem go_icmp_ge {x y : Int32} {off : Int} {tgt pc' : Nat} (hd : decode F.1.2.1 pc = .ok (.if_icmp .ge off, 3)) (kt : y ≤ x → Go E F tgt L st S k n Q) (kf : ¬ y ≤ x → Go E F pc' L st S k n Q) (ht : (pc : Int) + off = (tgt : Int) := by decide) (hp : pc + 3 = pc' := by rfl) : Go E F pc L (.int y :: .int x :: st) S k n Q := by
  intro p e R s m args below meth c H locs ls hI hA hL hn
  subst hp
  exact lv_icmp_ge hI.1 hI.2.1 hd ht (fun q => kt q p e R s m args below meth c H locs ls hI hA hL hn) (fun q => kf q p e R s m args below meth c H locs ls hI hA hL hn)
theorem go_if_ge {x : Int32} {off : Int} {tgt pc' : Nat} (hd : decode F.1.2.1 pc = .ok (.ifCond .ge off, 3)) (kt : 0 ≤ x → Go E F tgt L st S k n Q) (kf : ¬ 0 ≤ x → Go E F pc' L st S k n Q) (ht : (pc : Int) + off = (tgt : Int) := by decide) (hp : pc + 3 = pc' := by rfl) : Go E F pc L (.int x :: st) S k n Q := by
  intro p e R s m args below meth c H locs ls hI hA hL hn
  subst hp
  exact lv_if_ge hI.1 hI.2.1 hd ht (fun q => kt q p e R s m args below meth c H locs ls hI hA hL hn) (fun q => kf q p e R s m args below meth c H locs ls hI hA hL hn)
theorem go_icmp_gt {x y : Int32} {off : Int} {tgt pc' : Nat} (hd : decode F.1.2.1 pc = .ok (.if_icmp .gt off, 3)) (kt : y < x → Go E F tgt L st S k n Q) (kf : ¬ y < x → Go E F pc' L st S k n Q) (ht : (pc : Int) + off = (tgt : Int) := by decide) (hp : pc + 3 = pc' := by rfl) : Go E F pc L (.int y :: .int x :: st) S k n Q := by
  intro p e R s m args below meth c H locs ls hI hA hL hn
  subst hp
  exact lv_icmp_gt hI.1 hI.2.1 hd ht (fun q => kt q p e R s m args below meth c H locs ls hI hA hL hn) (fun q => kf q p e R s m args below meth c H locs ls hI hA hL hn)
theorem go_if_gt {x : Int32} {off : Int} {tgt pc' : Nat} (hd : decode F.1.2.1 pc = .ok (.ifCond .gt off, 3)) (kt : 0 < x → Go E F tgt L st S k n Q) (kf : ¬ 0 < x → Go E F pc' L st S k n Q) (ht : (pc : Int) + off = (tgt : Int) := by decide) (hp : pc + 3 = pc' := by rfl) : Go E F pc L (.int x :: st) S k n Q := by
  intro p e R s m args below meth c H locs ls hI hA hL hn
  subst hp
  exact lv_if_gt hI.1 hI.2.1 hd ht (fun q => kt q p e R s m args below meth c H locs ls hI hA hL hn) (fun q => kf q p e R s m args below meth c H locs ls hI hA hL hn)
theorem go_icmp_le {x y : Int32} {off : Int} {tgt pc' : Nat} (hd : decode F.1.2.1 pc = .ok (.if_icmp .le off, 3)) (kt : x ≤ y → Go E F tgt L st S k n Q) (kf : ¬ x ≤ y → Go E F pc' L st S k n Q) (ht : (pc : Int) + off = (tgt : Int) := by decide) (hp : pc + 3 = pc' := by rfl) : Go E F pc L (.int y :: .int x :: st) S k n Q := by
  intro p e R s m args below meth c H locs ls hI hA hL hn
  subst hp
  exact lv_icmp_le hI.1 hI.2.1 hd ht (fun q => kt q p e R s m args below meth c H locs ls hI hA hL hn) (fun q => kf q p e R s m args below meth c H locs ls hI hA hL hn)
theorem go_if_le {x : Int32} {off : Int} {tgt pc' : Nat} (hd : decode F.1.2.1 pc = .ok (.ifCond .le off, 3)) (kt : x ≤ 0 → Go E F tgt L st S k n Q) (kf : ¬ x ≤ 0 → Go E F pc' L st S k n Q) (ht : (pc : Int) + off = (tgt : Int) := by decide) (hp : pc + 3 = pc' := by rfl) : Go E F pc L (.int x :: st) S k n Q := by
  intro p e R s m args below meth c H locs ls hI hA hL hn
  subst hp
  exact lv_if_le hI.1 hI.2.1 hd ht (fun q => kt q p e R s m args below meth c H locs ls hI hA hL hn) (fun q => kf q p e R s m args below meth c H locs ls hI hA hL hn)
theorem go_lookup {dflt : Int} {ps : Array (Int × Int)} {len : Nat} {x : Int32} {off : Int} {tgt : Nat} (hd : decode F.1.2.1 pc = .ok (.lookupswitch dflt ps, len)) (hs : (ps.toList.zip (ps.toList.drop 1)).all (fun (a, next) => a.1 < next.1) = true) (ho : Op.lookupswitch.offset ps.toList dflt x.toInt = off) (h : Go E F tgt L st S k n Q) (ht : (pc : Int) + off = (tgt : Int) := by decide) : Go E F pc L (.int x :: st) S k n Q := by
  intro p e R s m args below meth c H locs ls hI hA hL hn
  exact lv_lookup hI.1 hI.2.1 hd hs ho ht (h p e R s m args below meth c H locs ls hI hA hL hn)
theorem go_tableOut {dflt lo hi : Int} {offs : Array Int} {len : Nat} {x : Int32} {tgt : Nat} (hd : decode F.1.2.1 pc = .ok (.tableswitch dflt lo hi offs, len)) (hx : x.toInt < lo ∨ hi < x.toInt) (h : Go E F tgt L st S k n Q) (ht : (pc : Int) + dflt = (tgt : Int) := by decide) : Go E F pc L (.int x :: st) S k n Q := by
  intro p e R s m args below meth c H locs ls hI hA hL hn
  exact lv_tableOut hI.1 hI.2.1 hd hx ht (h p e R s m args below meth c H locs ls hI hA hL hn)
theorem go_tableIn {dflt lo hi : Int} {offs : Array Int} {len : Nat} {x : Int32} {off : Int} {tgt : Nat} (hd : decode F.1.2.1 pc = .ok (.tableswitch dflt lo hi offs, len)) (h1 : ¬ x.toInt < lo) (h2 : ¬ hi < x.toInt) (ho : offs[(x.toInt - lo).toNat]? = some off) (h : Go E F tgt L st S k n Q) (ht : (pc : Int) + off = (tgt : Int) := by decide) : Go E F pc L (.int x :: st) S k n Q := by
  intro p e R s m args below meth c H locs ls hI hA hL hn
  exact lv_tableIn hI.1 hI.2.1 hd h1 h2 ho ht (h p e R s m args below meth c H locs ls hI hA hL hn)
end GO
