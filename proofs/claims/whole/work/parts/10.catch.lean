/-! ===== catches: the search resolves the classes of the clauses ===== -/
theorem pm_cold {Q : Handler → Pre} {Ec : CtlPost} {e : Env} {d : Bool} {acts : List Action} {s : State} {f : JFrame} {a : Addr} {x : ExceptionTableEntry} {t : List ExceptionTableEntry} {c : ClassId} {cell : Cell} {vm' : Vm} (hx : covers x f.pc = true) (h0 : x.catchType ≠ 0)
    (hg : (Jvm.resolveClass f.method.cls x.catchType).Gives e.toSetting s.vm (.ok c) vm') (hr : vm'.classReady f.method.cls x.catchType c) (hcell : s.heap[a]? = some cell) (hobj : ∀ k, cell.vm ≠ .statics k) (hk : ∃ k, vm'.classes[cell.cls]? = some k) (hc : ∃ k, vm'.classes[c]? = some k)
    (hsz : vm'.classes.size ≤ s.vm.classes.size) : wp (findHandler.go f a (x :: t)) Q Ec e d acts s ↔ wp (findHandler.go f a (x :: t)) Q Ec e d acts (s.setVm vm') := by
  obtain ⟨ha, ht⟩ := hg.op (op := VmOp.resolveClass f.method.cls x.catchType) rfl
  rw [W.findHandler_go_class (s := s.setVm vm') hx h0 hr hcell hobj hk hc]
  simp only [covers] at hx
  cases hfit : vm'.assignable cell.cls c <;> simp [findHandler.go, hx, h0, ha, ht, hsz, hcell, hobj, hk, hc, hfit, VmOp.dirties, VmOp.acts]
theorem pm_find {e : Env} {s : State} {f : JFrame} {args : Array Value} {own X : String} {a : Addr} {cell : Cell} (hpl : e.platform.magicAccessors = ({} : Platform).magicAccessors) (hown : s.vm.findClass own = some f.method.cls) (hobj : cell.vm.isStatics = false) (hX : s.vm.findClass X = some cell.cls) (x : ExceptionTableEntry) (rest : List ExceptionTableEntry) (hx : covers x f.pc = true) (h0 : x.catchType ≠ 0) (hl : (Cond.classLink own x.catchType X).before args s = true) :
    ∀ (pre : List ExceptionTableEntry) (U : State), s.WarmedH U.vm → U.heap[a]? = some cell → (∀ y ∈ pre, covers y f.pc = true ∧ y.catchType ≠ 0 ∧ ∃ Y : String, (Cond.classLink own y.catchType Y).before args s = true ∧ va_Nc X Y s) →
      ∃ vm', s.WarmedH vm' ∧ ∀ (Q : Handler → Pre) (Ec : CtlPost) (d : Bool) (acts : List Action), wp (findHandler.go f a (pre ++ x :: rest)) Q Ec e d acts U ↔ Q (.found x.handlerPc) d acts (U.setVm vm') := by
  intro pre
  have hobj' : ∀ k, cell.vm ≠ .statics k := VmData.ne_statics_of hobj
  obtain ⟨kX, hkX⟩ := Vm.classAt_of_findClass hX
  induction pre with
  | nil =>
    intro U hW hcell _
    obtain ⟨c', hc', hcl⟩ := Cond.classLink_spec hown hl e.platform hpl
    cases hX.symm.trans hc'
    obtain ⟨dk, _, _, kt, hd, _, _, _, _, hkt, _, hopen⟩ := hcl.here
    have hcl₀ := hW.classLinks hcl
    have hW' : s.WarmedH (U.vm.noted f.method.cls x.catchType (.cls cell.cls)) := hW.noted hd hopen (State.rightAt_cls hcl)
    obtain ⟨kt', hkt', -⟩ := hW'.alike.2.2 _ _ hkt
    refine ⟨_, hW', fun Q Ec d acts => ?_⟩
    rw [List.nil_append, pm_cold hx h0 (resolveClass_links e.toSetting hcl₀) hcl₀.ready hcell hobj' ⟨kt', hkt'⟩ ⟨kt', hkt'⟩ (by no_record)]
    rw [W.findHandler_go_class (s := U.setVm (U.vm.noted f.method.cls x.catchType (.cls cell.cls))) hx h0 hcl₀.ready hcell hobj' ⟨kt', hkt'⟩ ⟨kt', hkt'⟩]
    rw [if_pos (va_asg _ _)]
  | cons y t ih =>
    intro U hW hcell hp
    obtain ⟨hy, hy0, Y, hyl, hnc⟩ := hp y List.mem_cons_self
    obtain ⟨c1, t1, n1, n2, n3⟩ := hnc
    cases hX.symm.trans n1
    obtain ⟨c', hc', hcl⟩ := Cond.classLink_spec hown hyl e.platform hpl
    cases n2.symm.trans hc'
    obtain ⟨dk, _, _, kt, hd, _, _, _, _, hkt, _, hopen⟩ := hcl.here
    have hcl₀ := hW.classLinks hcl
    have hW' : s.WarmedH (U.vm.noted f.method.cls y.catchType (.cls t1)) := hW.noted hd hopen (State.rightAt_cls hcl)
    obtain ⟨kt', hkt', -⟩ := hW'.alike.2.2 _ _ hkt
    obtain ⟨ks', hks', -⟩ := hW'.alike.2.2 _ _ hkX
    obtain ⟨vm', hv1, hv2⟩ := ih (U.setVm (U.vm.noted f.method.cls y.catchType (.cls t1))) hW' hcell (fun z hz => hp z (List.mem_cons_of_mem _ hz))
    refine ⟨vm', hv1, fun Q Ec d acts => ?_⟩
    rw [List.cons_append, pm_cold hy hy0 (resolveClass_links e.toSetting hcl₀) hcl₀.ready hcell hobj' ⟨ks', hks'⟩ ⟨kt', hkt'⟩ (by no_record)]
    rw [W.findHandler_go_class (s := U.setVm (U.vm.noted f.method.cls y.catchType (.cls t1))) hy hy0 hcl₀.ready hcell hobj' ⟨ks', hks'⟩ ⟨kt', hkt'⟩]
    have hno : (U.setVm (U.vm.noted f.method.cls y.catchType (.cls t1))).vm.assignable cell.cls t1 = false := by
      show (U.vm.noted f.method.cls y.catchType (.cls t1)).assignable cell.cls t1 = false
      rw [hW'.alike.assignable]; exact n3
    rw [if_neg (by rw [hno]; decide)]
    exact hv2 Q Ec d acts
theorem pm_stepc {e : Env} {s : State} {a : Addr} {f : JFrame} {r : List Frame} {pc : Nat} {vm' : Vm} (hfind : ∀ (Q : Handler → Pre) (Ec : CtlPost) (d : Bool) (acts : List Action), wp (findHandler f a) Q Ec e d acts s ↔ Q (.found pc) d acts (s.setVm vm')) :
    (stepThrowing e s a (.java f :: r)).Is ((s.setVm vm').setFrames (.java { f with pc := pc, stack := [.ref a] } :: r)) [] := by
  simp only [stepThrowing, searchFrame, vmDo]
  generalize hr : Sem.go _ e false [] s = res
  obtain ⟨as, rfl, ha⟩ := Sem.eq_ok_of hr (a := Handler.found pc) (s' := s.setVm vm') (acts' := []) (by simp [hfind _ _ _ _])
  exact ⟨rfl, ha⟩
theorem pm_caught {tb : Tables} {e : Env} {s target : State} {g : JFrame} {c : Code} {below : List Frame} {a : Addr} (h : At s g.method c below) {pc : Nat} {vm' : Vm} (hfind : ∀ (Q : Handler → Pre) (Ec : CtlPost) (d : Bool) (acts : List Action), wp (findHandler g a) Q Ec e d acts ((s.setTop g).pushFrame (.throwing a)) ↔ Q (.found pc) d acts (((s.setTop g).pushFrame (.throwing a)).setVm vm'))
    (hrest : Steps tb e below ((s.setVm vm').setTop { g with pc := pc, stack := [.ref a] }) target) : Steps tb e below ((s.setTop g).pushFrame (.throwing a)) target := by
  obtain ⟨hgo, hw⟩ := h.throwing a
  refine Steps.head hgo hw ?_
  rw [stepThread_throwing (frames_entered h.top _), (pm_stepc (s := (s.setTop g).pushFrame (.throwing a)) hfind).1]
  obtain ⟨g₀, hg⟩ := Option.isSome_iff_exists.mp h.top
  obtain ⟨r, hr⟩ := State.topJava?_eq_some.mp hg
  have hr' : (s.setVm vm').frames = .java g₀ :: r := hr
  rw [State.setTop_of_frames _ hr'] at hrest
  have e1 : (((s.setTop g).pushFrame (.throwing a)).setVm vm').setFrames (.java { g with pc := pc, stack := [.ref a] } :: s.frames.tail) = (s.setVm vm').setFrames (.java { g with pc := pc, stack := [.ref a] } :: r) := by
    rw [hr, State.pushFrame, State.setTop_of_frames _ hr]
    show (((s.setFrames (.java g :: r)).setFrames _).setVm vm').setFrames _ = _
    rw [State.setFrames_setFrames]
    show ((s.setVm vm').setFrames _).setFrames _ = _
    rw [State.setFrames_setFrames]
    rfl
  rw [e1]
  exact hrest
theorem got_catch {E : pmEv} {F : pmFr} {pc : Nat} {L : pmL} {S : pmS} {k n : Nat} {Q : pmA → pmS → Prop} {x : Nat} (pre : List (Nat × Nat × Nat × Nat)) (q : Nat × Nat × Nat × Nat) (rest : List (Nat × Nat × Nat × Nat)) (hx : x < 4) (hh : F.1.2.2.2.2.1 = pre ++ q :: rest) (hq : (q.1 ≤ pc ∧ pc < q.2.1) ∧ q.2.2.2 ≠ 0) (hl : Cond.classLink F.1.1.cls q.2.2.2 (pmXs.getD x "") ∈ pmW) (hpre : ∀ y ∈ pre, (y.1 ≤ pc ∧ pc < y.2.1) ∧ y.2.2.2 ≠ 0 ∧ ∃ z, z < 4 ∧ z ≠ x ∧ Cond.classLink F.1.1.cls y.2.2.2 (pmXs.getD z "") ∈ pmW)
    (h : ∀ a, Go E F q.2.2.1 L [.ref a] S k n Q) : GoT E F pc L S k n Q x := by
  intro p e R s m args below meth c H locs ls hI hA hL hn a ce st hce hcs hcc T hT X
  have hts := hI.2.2.2.2.2.2.2.2.1
  have hK := hI.2.2.2.2.2.2.2.2.2.1
  have h6 := hI.2.2.2.2.2.1
  rw [hh] at h6
  obtain ⟨pre', l2, hsplit, hp1, hp2⟩ := List.map_eq_append_iff.mp h6
  obtain ⟨y, rest', rfl, hy, hr'⟩ := List.map_eq_cons_iff.mp hp2
  have hpl : e.platform.magicAccessors = ({} : Platform).magicAccessors := by rw [X.admits.platform]
  have hcov : ∀ (y : ExceptionTableEntry) (z : Nat × Nat × Nat × Nat), (y.startPc, y.endPc, y.handlerPc, y.catchType) = z → (z.1 ≤ pc ∧ pc < z.2.1) → covers y (F0 m pc ls st).pc = true := by
    intro y z hz hc
    subst hz
    simp [covers, hc.1, hc.2]
  obtain ⟨vm', hW', hf⟩ := pm_find (e := e) (f := F0 m pc ls st) (args := args) (own := F.1.1.cls) (X := pmXs.getD x "") (a := a) (cell := ce) hpl hI.2.2.2.2.2.2.1 hcs hcc y rest' (hcov y q hy hq.1) (by rw [show y.catchType = q.2.2.2 by rw [← hy]]; exact hq.2) (by rw [show y.catchType = q.2.2.2 by rw [← hy]]; exact hts _ hl) pre' ((T.setTop (F0 m pc ls st)).pushFrame (.throwing a)) (by rw [Stand.throwing_vm]; exact X.warmed) (by rw [Stand.throwing_heap, hT]; exact hce) (fun u hu => by
      have hu' : (u.startPc, u.endPc, u.handlerPc, u.catchType) ∈ pre := by rw [← hp1]; exact List.mem_map.mpr ⟨u, hu, rfl⟩
      obtain ⟨g1, g2, z, g3, g4, g5⟩ := hpre _ hu'
      exact ⟨hcov u _ rfl g1, g2, _, hts _ g5, hK.2.2.2.2.2.2.2.1 x z hx g3 (Ne.symm g4)⟩)
  have hAt : At T (F0 m pc ls st).method c below := X.here
  obtain ⟨t, a1, b1⟩ := h a p e R s m args below meth c H locs ls hI hA hL hn (T.setVm vm') hT (X.noted hW')
  refine ⟨t, pm_caught hAt (pc := q.2.2.1) (vm' := vm') (fun Q Ec d acts => ?_) a1, b1⟩
  rw [W.findHandler_eq (meth := meth) (code := c) (by rw [Stand.throwing_vm]; exact X.method') X.code, hsplit, hf Q Ec d acts]
  rw [show y.handlerPc = q.2.2.1 by rw [← hy]]
/-! ===== System.arraycopy of ints ===== -/
theorem go_copy {E : pmEv} {F : pmFr} {pc : Nat} {L : pmL} {rest : List Value} {S : pmS} {k n : Nat} {Q : pmA → pmS → Prop} {x a0 a N0 N1 : Nat} {f g : Nat → Int32} {sp dp cn : Int32} {pc' : Nat} (hd : decode F.1.2.1 pc = .ok (.invokestatic x, 3)) (hl : Cond.methodLink F.1.1.cls x arraycopyName ∈ pmW) (hh0 : S.1 a0 = some (pmI N0 f)) (hh1 : S.1 a = some (pmI N1 g)) (h1 : ¬ sp < 0) (h2 : ¬ dp < 0) (h3 : ¬ cn < 0) (h4 : sp.toNatClampNeg + cn.toNatClampNeg ≤ N0) (h5 : dp.toNatClampNeg + cn.toNatClampNeg ≤ N1)
    (h : Go E F pc' L rest (pmU S.1 a (pmI N1 (va_cpy f g sp.toNatClampNeg dp.toNatClampNeg cn.toNatClampNeg)), S.2.1, true) k n Q) (hfr : 1 ≤ F.1.2.2.2.2.2.2.2.1 := by exact Nat.le_of_ble_eq_true rfl) (hlo : (rest.map fun v => v.category).sum + 18 ≤ F.1.2.2.2.2.2.2.2.2 := by exact Nat.le_of_ble_eq_true rfl) (hp : pc + 3 = pc' := by rfl) : Go E F pc L (.int cn :: .int dp :: .ref a :: .int sp :: .ref a0 :: rest) S k n Q := by
  intro p e R s m args below meth c H locs ls hI hA hL hn T hT X
  subst hp
  have nn : ∀ z : Int32, ¬ z < 0 → z.toInt = (z.toNatClampNeg : Int) := by
    intro z hz
    have hz0 : (0 : Int) ≤ z.toInt := by
      have := Int32.not_lt.mp hz
      simpa using Int32.le_iff_toInt_le.mp this
    show z.toInt = ((z.toInt.toNat : Nat) : Int)
    omega
  have hts := hI.2.2.2.2.2.2.2.2.1
  have hR := hI.2.2.2.2.2.2.2.2.2.2.1
  obtain ⟨b0, hc0⟩ := hA.1 a0 _ hh0
  obtain ⟨b1, hc1⟩ := hA.1 a _ hh1
  have hAr := (pmTs_at hI.2.2.2.2.2.2.2.2.2.1).1
  obtain ⟨-, k0, hk0, cm0, hkk0⟩ := hAr N0 (fun j => .int (f j))
  obtain ⟨-, k1, hk1, cm1, hkk1⟩ := hAr N1 (fun j => .int (g j))
  obtain ⟨vm', X', step⟩ := X.arraycopy hI.1 hI.2.2.2.2.2.2.1 (hts _ hl) (hts _ qw_an) (hts _ qw_as) (hts _ qw_ai) (src := a0) (dst := a) (cs := arrV E.2.2.2.1.1 N0 (fun j => .int (f j))) (cd := arrV E.2.2.2.1.1 N1 (fun j => .int (g j))) (srcPos := sp) (destPos := dp) (n := cn) (by rw [hT]; exact hc0) (by rw [hT]; exact hc1)
    (fun _ h => by cases h) (fun _ h => by cases h) (fun h => by cases h) (fun h => by cases h) hk0 hk1 hkk0 hkk1 (by simp [refKind]) h1 h2 h3
    (by rw [nn sp h1, nn cn h3, arrV_size]; omega)
    (by rw [nn dp h2, nn cn h3, arrV_size]; omega)
    (fun vm₁ _ i hi => by
      have e : (arrV E.2.2.2.1.1 N0 (fun j => .int (f j))).slots.getD (sp.toNatClampNeg + i) .null = .int (f (sp.toNatClampNeg + i)) := by
        rw [Array.getD_eq_getD_getElem?, arrV_read _ _ (by omega)]
        rfl
      refine ⟨?_, ?_⟩
      · rw [e]; rfl
      · rw [e]; exact trivial)
    (g := F0 m pc ls (.int cn :: .int dp :: .ref a :: .int sp :: .ref a0 :: rest)) rfl (by show ls.size = _; rw [hI.2.2.1, ← hn]; exact hL.1) (rest := rest) rfl (by rw [hI.2.1]; exact hd) (by rw [hR.1]; exact hfr) (by rw [hR.2.1]; show 2 * 0 + _ + (5 + 2 + 11) ≤ _; omega)
  have e1 : copied (arrV E.2.2.2.1.1 N0 (fun j => .int (f j))) (arrV E.2.2.2.1.1 N1 (fun j => .int (g j))) sp dp cn = arrV E.2.2.2.1.1 N1 (fun j => .int (va_cpy f g sp.toNatClampNeg dp.toNatClampNeg cn.toNatClampNeg j)) := va_copied (fun z => .int z) _ _ f g h4
  rw [e1] at X' step
  have hlt : a < H.size := (Array.getElem?_eq_some_iff.mp hc1).1
  have hheap : ((T.setVm vm').setCell a (arrV E.2.2.2.1.1 N1 (fun j => .int (va_cpy f g sp.toNatClampNeg dp.toNatClampNeg cn.toNatClampNeg j)))).heap = H.setIfInBounds a (arrV E.2.2.2.1.1 N1 (fun j => .int (va_cpy f g sp.toNatClampNeg dp.toNatClampNeg cn.toNatClampNeg j))) := by rw [← hT]; rfl
  have oq : ∀ q : Nat, q ≠ a → (H.setIfInBounds a (arrV E.2.2.2.1.1 N1 (fun j => .int (va_cpy f g sp.toNatClampNeg dp.toNatClampNeg cn.toNatClampNeg j))))[q]? = H[q]? := fun q hq => by simp [Array.getElem?_setIfInBounds, Ne.symm hq]
  have hS := hA.2.2.1
  obtain ⟨t, a1, b1⟩ := h p e R s m args below meth c _ _ ls hI ⟨hA.1.put ⟨b1, (show (H.setIfInBounds a _)[a]? = some _ by simp [Array.getElem?_setIfInBounds, hlt])⟩ oq, fun z hz => by rw [Array.size_setIfInBounds]; exact hA.2.1 z hz, ⟨by rw [Array.size_setIfInBounds]; exact hS.1, fun q g1 g2 => by
      rw [oq q (fun e => g2 (by rw [e]; exact b1))]
      exact hS.2.1 q g1 g2, fun q hq => by
      rcases List.mem_append.mp hq with h | h
      · exact hS.2.2 q h
      · obtain ⟨z, -, hz⟩ := List.mem_map.mp h
        rw [← hz]
        exact b1⟩, fun q => by cases q⟩ hL hn _ hheap X'
  exact ⟨t, step t a1, b1⟩
