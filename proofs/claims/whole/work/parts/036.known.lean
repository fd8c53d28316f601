/-! ===== what is known of the tables and of the statics, at a state ===== -/
/-- the static field has its place in a cell of statics that is never written -/
def pmLy (C n d : String) (A : Nat → Prop) (U : State) (H : Heap) : Prop := ∃ (c : ClassId) (k : Class) (i : Nat) (f : Field) (a : Nat) (cell : Cell), U.vm.findClass C = some c ∧ U.fieldFound? C n d = some (c, k, i, f) ∧ f.isStatic = true ∧ k.statics = some a ∧ H[a]? = some cell ∧ cell.vm.isStatics = true ∧ cell.cls = c ∧ f.slot < cell.slots.size ∧ k.staticTypes[f.slot]? = some f.type ∧ ¬ A a
theorem pmLy.moved {C n d : String} {A : Nat → Prop} {u U : State} {H : Heap} (hvm : u.vm.Alike U.vm) (h : pmLy C n d A u H) : pmLy C n d A U H := by
  obtain ⟨c, k, i, f, a, cell, h0, h1, h2, h3, h4, h5, h6, h7, h8, h9⟩ := h
  obtain ⟨k', hi', he⟩ := State.fieldFound?_setVm hvm h1
  exact ⟨c, k', i, f, a, cell, by rw [hvm.findClass]; exact h0, hi', h2, by rw [he]; exact h3, h4, h5, h6, h7, by rw [he]; exact h8, h9⟩
theorem pmLy.kept {C n d : String} {A : Nat → Prop} {U : State} {H H1 : Heap} (h : pmLy C n d A U H) (hq : ∀ a : Nat, a < H.size → ¬ A a → H1[a]? = H[a]?) : pmLy C n d A U H1 := by
  obtain ⟨c, k, i, f, a, cell, h0, h1, h2, h3, h4, h5, h6, h7, h8, h9⟩ := h
  exact ⟨c, k, i, f, a, cell, h0, h1, h2, h3, by rw [hq a (Array.getElem?_eq_some_iff.mp h4).1 h9]; exact h4, h5, h6, h7, h8, h9⟩
theorem pmLy.use {C n d : String} {A : Nat → Prop} {s : State} {args : Array Value} (h : pmLy C n d A s s.heap) : (Cond.laysStatic C n d).before args s = true := by
  obtain ⟨c, k, i, f, a, cell, h0, h1, h2, h3, h4, h5, h6, h7, h8, h9⟩ := h
  simp [Cond.before, Cond.holds, Cond.value, h0, h1, h2, h3, h4, h5, h6, h7, h8]
theorem pmLy.of {C n d : String} {A : Nat → Prop} {s : State} {args : Array Value} (h : (Cond.laysStatic C n d).before args s = true) (hA : ∀ a : Nat, a < s.heap.size → ¬ A a) : pmLy C n d A s s.heap := by
  obtain ⟨c, k, i, f, a, cell, h0, h1, h2, h3, h4, h5, h6, h7, h8⟩ := Cond.laysStatic_spec h
  exact ⟨c, k, i, f, a, cell, h0, h1, h2, h3, h4, h5, h6, h7, h8, hA a (Array.getElem?_eq_some_iff.mp h4).1⟩
theorem pmDc.moved {u U : State} {x : MethodName} (hvm : u.vm.Alike U.vm) (h : va_Nw (.declares x) u) : va_Nw (.declares x) U := by
  have h1 : (Cond.declares x).before #[] (u.setVm U.vm) = true := by
    rw [Cond.declares_setVm hvm]
    exact h
  have e := Cond.onTables_vm (A := #[]) (A' := #[]) (U := u) (U' := U) U.vm (Cond.declares x) rfl
  have hU : U.setVm U.vm = U := rfl
  rw [hU] at e
  unfold va_Nw
  rw [← e]
  exact h1
def pmXd : List MethodName := [⟨"java/lang/RuntimeException", "<init>", "(Ljava/lang/String;)V"⟩, ⟨"java/lang/Exception", "<init>", "(Ljava/lang/String;)V"⟩, ⟨"java/lang/Throwable", "<init>", "(Ljava/lang/String;)V"⟩]
def pmKn (E : pmEv) (U : State) : Prop :=
  va_K E.2.2.1 pmCl (pmTs E) U ∧ E.2.1 ≤ U.heap.size ∧
  va_Z "PortableFiles$Bytes" "BEGINNING" "[I" (.ref (E.2.2.2.2 0)) (pmA0 E) U U.heap ∧ va_Z "PortableFiles$Bytes" "SUM_STEPS" "[I" (.ref (E.2.2.2.2 1)) (pmA0 E) U U.heap ∧
  va_Zq "java/lang/Throwable" "UNASSIGNED_STACK" "[Ljava/lang/StackTraceElement;" (pmA0 E) U U.heap ∧ va_Zq "java/lang/Throwable" "SUPPRESSED_SENTINEL" "Ljava/util/List;" (pmA0 E) U U.heap ∧
  (∀ w ∈ pmNest, va_Nw w U) ∧ (∀ x y : Nat, x < 4 → y < 4 → x ≠ y → va_Nc (pmXs.getD x "") (pmXs.getD y "") U) ∧ (∀ q ∈ pmStr, ∃ a : Nat, vk_R "PortableFiles" q.1 q.2 a U) ∧
  (pmLy "java/lang/Throwable" "UNASSIGNED_STACK" "[Ljava/lang/StackTraceElement;" (pmA0 E) U U.heap ∧ pmLy "java/lang/Throwable" "SUPPRESSED_SENTINEL" "Ljava/util/List;" (pmA0 E) U U.heap) ∧
  (∀ x ∈ pmXs, va_Nw (.castable x x) U) ∧ (∀ x ∈ pmXd, va_Nw (.declares x) U)
theorem pmNest_warm {s U : State} (hW : s.WarmedH U.vm) (h : ∀ w ∈ pmNest, va_Nw w s) : ∀ w ∈ pmNest, va_Nw w U := by
  intro w hw
  have h1 := h w hw
  simp only [pmNest, List.mem_cons, List.not_mem_nil, or_false] at hw
  rcases hw with rfl | rfl | rfl | rfl | rfl | rfl | rfl <;> exact va_Nw.warmM hW h1
theorem pmKn.go {E : pmEv} {s U : State} {H : Heap} {locs : List Loc} (h : pmKn E s) (hW : s.WarmedH U.vm) (hU : U.heap = H) (hS : va_S (pmA0 E) s.heap H locs) : pmKn E U := by
  obtain ⟨h1, h2, h3, h4, h5, h6, h7, h8, h9, ⟨h10, h11⟩, h12, h13⟩ := h
  have hq : ∀ a : Nat, a < s.heap.size → ¬ pmA0 E a → U.heap[a]? = s.heap[a]? := fun a q1 q2 => by rw [hU]; exact hS.2.1 a q1 q2
  exact ⟨va_K.moved hW.alike h1, Nat.le_trans h2 (by rw [hU]; exact hS.1), (va_Z.moved hW.alike h3).kept hq, (va_Z.moved hW.alike h4).kept hq, (va_Zq.moved hW.alike h5).kept hq, (va_Zq.moved hW.alike h6).kept hq, pmNest_warm hW h7, fun x y q1 q2 q3 => va_Nc.moved hW.alike (h8 x y q1 q2 q3), fun q hq => (h9 q hq).imp fun a ha => vk_R.warm hW ha, ⟨(pmLy.moved hW.alike h10).kept hq, (pmLy.moved hW.alike h11).kept hq⟩, fun x hx => va_Nw.warmC hW (h12 x hx), fun x hx => pmDc.moved hW.alike (h13 x hx)⟩
