/-! ===== ends, calls, throws ===== -/
section GOI
variable {E : pmEv} {F : pmFr} {pc : Nat} {L : pmL} {st : List Value} {S : pmS} {k n : Nat} {Q : pmA → pmS → Prop}
theorem pm_end {s : State} {H : Heap} {locs : List Loc} {below : List Frame} {args : Array Value} {t : State} {v : Option Value} (hA : pmAt E F s S H locs) (hq : Q (.inl v) S) (h : MQ below (fun _ _ oc t => oc = .returned v ∧ t.heap = H) args s F.2.2.1 F.2.2.2 (fun q => E.2.1 ≤ q ∧ S.2.2 = true) t) : pmZ E F Q below s t := by
  obtain ⟨oc, b1, b2, ⟨rfl, hh⟩, Lc, ⟨-, hWm, hsame⟩, hf⟩ := h
  refine ⟨_, b1, b2, .inl v, S, hq, rfl, hWm, ⟨Lc, hsame, fun q h => (hf q h).1, fun hd => ⟨?_, (hA.2.2.2 hd).2⟩⟩, by rw [hh]; exact hA.1, fun z hz => by rw [hh]; exact hA.2.1 z hz, hA.2.2.1.F hh⟩
  cases Lc with
  | nil => rfl
  | cons q r =>
    have := (hf q List.mem_cons_self).2
    rw [hd] at this
    cases this
theorem pm_free {s : State} {H : Heap} {locs : List Loc} (hA : pmAt E F s S H locs) : ∀ q ∈ locs, (fun q => E.2.1 ≤ q ∧ S.2.2 = true) q.base := by
  intro q hq
  refine ⟨hA.2.2.1.2.2 q hq, ?_⟩
  cases hS : S.2.2 with
  | true => rfl
  | false =>
    rw [(hA.2.2.2 hS).1] at hq
    cases hq
theorem go_iret {v : Int32} {ty : FieldType} (hd : decode F.1.2.1 pc = .ok (.ireturn, 1)) (hr : F.1.2.2.2.1 = some ty) (hv : narrow ty (.int v) = .int v) (hq : Q (.inl (some (.int v))) S) (hk : k ≤ F.2.2.1) (hn' : n ≤ F.2.2.2) : Go E F pc L [.int v] S k n Q := by
  intro p e R s m args below meth c H locs ls hI hA hL hn
  refine W.widen hk hn' ?_
  intro T hT X
  obtain ⟨t, a1, b⟩ := W.zret (Qc := fun _ _ oc t => oc = .returned (some (.int v)) ∧ t.heap = H) (free := fun q => E.2.1 ≤ q ∧ S.2.2 = true) hI.1 hI.2.1 (hI.2.2.2.1.trans hr) hv (fun t ht _ => ⟨rfl, ht⟩) (pm_free hA) hd hI.2.2.2.2.1 T hT X
  exact ⟨t, a1, pm_end hA hq b⟩
theorem go_vret (hd : decode F.1.2.1 pc = .ok (.return_, 1)) (hr : F.1.2.2.2.1 = none) (hq : Q (.inl none) S) (hk : k ≤ F.2.2.1) (hn' : n ≤ F.2.2.2) : Go E F pc L [] S k n Q := by
  intro p e R s m args below meth c H locs ls hI hA hL hn
  refine W.widen hk hn' ?_
  intro T hT X
  obtain ⟨t, a1, b⟩ := W.vret (Qc := fun _ _ oc t => oc = .returned none ∧ t.heap = H) (free := fun q => E.2.1 ≤ q ∧ S.2.2 = true) hI.1 hI.2.1 (hI.2.2.2.1.trans hr) (fun t ht _ => ⟨rfl, ht⟩) (pm_free hA) hd hI.2.2.2.2.1 T hT X
  exact ⟨t, a1, pm_end hA hq b⟩
/-- an exception stands over the frame at pc -/
def GoT (E : pmEv) (F : pmFr) (pc : Nat) (L : pmL) (S : pmS) (k n : Nat) (Q : pmA → pmS → Prop) (x : Nat) : Prop :=
  ∀ (p : Program) (e : Env) (R : Room) (s : State) (m : MethodId) (args : Array Value) (below : List Frame) (meth : Method) (c : Code) (H : Heap) (locs : List Loc) (ls : Array Slot),
    pmIs E F p R s m args meth c → pmAt E F s S H locs → pmLs ls L → L.length = F.1.2.2.1 → ∀ (a : Addr) (ce : Cell) (st : List Value), H[a]? = some ce → ce.vm.isStatics = false → s.vm.findClass (pmXs.getD x "") = some ce.cls →
    ∀ T : State, T.heap = H → Stand p E.1 e R s m args below meth c T locs k n → ∃ t, Steps p.tables e below ((T.setTop (F0 m pc ls st)).pushFrame (.throwing a)) t ∧ pmZ E F Q below s t
theorem got_out {x : Nat} (hh : F.1.2.2.2.2.1 = []) (hq : Q (.inr x) S) (hk : k ≤ F.2.2.1) (hn' : n ≤ F.2.2.2) : GoT E F pc L S k n Q x := by
  intro p e R s m args below meth c H locs ls hI hA hL hn a ce st hce hcs hcc T hT X
  have hlocks := hI.2.2.2.2.1
  have hout : ∀ y ∈ c.exceptionTable.toList, covers y (F0 m pc ls st).pc = false := by
    intro y hy
    have h6 := hI.2.2.2.2.2.1
    rw [hh] at h6
    rw [List.map_eq_nil_iff.mp h6] at hy
    cases hy
  obtain ⟨h1, h2, h3, h4, h5⟩ := X.leaveThrown a (g := F0 m pc ls st) rfl rfl rfl hout
  refine ⟨_, h1, .threw a, h2, h3, .inr x, S, hq, ⟨a, ce, rfl, by rw [← hT] at hce; exact hce, hcs, hcc⟩, h4, ⟨locs, h5.mono hk hn', hA.2.2.1.2.2, hA.2.2.2⟩, ?_, ?_, ?_⟩
  · show pmHI E s S.1 T.heap
    rw [hT]; exact hA.1
  · intro z hz
    show T.heap.size = z
    rw [hT]; exact hA.2.1 z hz
  · exact hA.2.2.1.F hT
/-- behind a call: what the callee answered or threw -/
theorem pm_after {M : pmMeth} {vs rest st0 : List Value} {mc ms : Nat} {Qc : pmA → pmS → Prop} {pc' : Nat} (hC : Call E M vs S.1 S.2.1 mc ms Qc) (hok : pmOk M) (hfr : M.2.2.2.2.2.2.2.1 + 1 ≤ F.1.2.2.2.2.2.2.2.1) (hlo : 8 + (M.2.2.1 + 11) + M.2.2.2.2.2.2.2.2 ≤ F.1.2.2.2.2.2.2.2.2) (hcl : k + mc ≤ F.2.2.1) (hsl : n + ms ≤ F.2.2.2) (hW : (rest.map fun v => v.category).sum ≤ 8)
    (kr : ∀ v S', Qc (.inl v) S' → Go E F pc' L (v.toList ++ rest) (S'.1, S'.2.1, S.2.2 || S'.2.2) (k + mc) (n + ms) Q) (kt : ∀ x S', Qc (.inr x) S' → GoT E F pc L (S'.1, S'.2.1, S.2.2 || S'.2.2) (k + mc) (n + ms) Q x) (hp : pc + 3 = pc')
    {p : Program} {e : Env} {R : Room} {s : State} {m : MethodId} {args : Array Value} {below : List Frame} {meth : Method} {c : Code} {H : Heap} {locs : List Loc} {ls : Array Slot} (hI : pmIs E F p R s m args meth c) (hA : pmAt E F s S H locs) (hL : pmLs ls L) (hn : L.length = F.1.2.2.1)
    {ig : Instr} (hd : decode F.1.2.1 pc = .ok (ig, 3))
    {T : State} (hT : T.heap = H) (X : Stand p E.1 e R s m args below meth c T locs k n) {vm₁ : Vm} (X₁ : Stand p E.1 e R s m args below meth c (T.setVm vm₁) locs k n) {mk : MethodId} (hnamed : s.methodNamed? M.1 = some mk)
    (hstep : ∀ target, (∀ acts, Steps p.tables e below (doInvoke e ((T.setVm vm₁).setTop (F0 m pc ls rest)) acts mk vs.toArray).1 target) → Steps p.tables e below (T.setTop (F0 m pc ls st0)) target) :
    ∃ t, Steps p.tables e below (T.setTop (F0 m pc ls st0)) t ∧ pmZ E F Q below s t := by
  subst hp
  have hR := hI.2.2.2.2.2.2.2.2.2.2.1
  have hS := hA.2.2.1
  have hKU : pmKn E (T.setVm vm₁) := (hI.2.2.2.2.2.2.2.2.2.1).go X₁.warmed (H := H) (locs := locs) hT hS
  have hP : pmPre E vs S.1 S.2.1 vs.toArray ((T.setVm vm₁).calling (F0 m pc ls rest) mk vs.toArray) := by
    have hal : s.vm.Alike ((T.setVm vm₁).calling (F0 m pc ls rest) mk vs.toArray).vm := X₁.warmed.alike
    have hh : ((T.setVm vm₁).calling (F0 m pc ls rest) mk vs.toArray).heap = H := hT
    refine ⟨rfl, (hI.2.2.2.2.2.2.2.2.2.1).go (U := (T.setVm vm₁).calling (F0 m pc ls rest) mk vs.toArray) X₁.warmed hh hS, ?_, ?_, hI.2.2.2.2.2.2.2.2.2.2.2.1⟩
    · rw [hh]; exact hA.1.moved hal
    · rw [hh]; exact hA.2.1
  obtain ⟨o, t, U', Lc, oa, S', X', e1, e2, hQ, hoc, hLc, hdirty, hHI, hz, hF, hsteps⟩ := pm_bk hC hok X₁ (g := F0 m pc ls rest) rfl (by show ls.size = _; rw [hI.2.2.1, ← hn]; exact hL.1) (ig := ig) (len := 3) (by rw [hI.2.1]; exact hd) (by simpa [JFrame.monitorRoom] using hW) (X₁.named hnamed)
    (by rw [hR.1]; exact hfr) (by rw [hR.2.1]; exact hlo) (by rw [hR.2.2.1]; exact hcl) (by rw [hR.2.2.2]; exact hsl) hI.2.2.2.2.2.2.2.2.1 hP
  have hF' : va_F (pmA0 E) T t := hF
  have hA' : pmAt E F s (S'.1, S'.2.1, S.2.2 || S'.2.2) t.heap (locs ++ Lc) := by
    refine ⟨hHI, hz, ⟨Nat.le_trans hS.1 (by rw [← hT]; exact hF'.1), fun q h1 h2 => ?_, fun q hq => ?_⟩, fun hd => ?_⟩
    · rw [hF'.2 q (Nat.lt_of_lt_of_le h1 (by rw [hT]; exact hS.1)) h2, hT]
      exact hS.2.1 q h1 h2
    · rcases List.mem_append.mp hq with h | h
      · exact hS.2.2 q h
      · exact hLc q h
    · have hd' : S.2.2 = false ∧ S'.2.2 = false := by simpa using hd
      obtain ⟨h1, h2⟩ := hA.2.2.2 hd'.1
      exact ⟨by rw [h1, (hdirty hd'.2).1]; rfl, (hdirty hd'.2).2.trans h2⟩
  have hgo : ∀ target, Steps p.tables e below (pmBack (F0 m pc ls rest) 3 U' o) target → Steps p.tables e below (T.setTop (F0 m pc ls st0)) target := fun target h => hstep _ fun acts => by rw [doInvoke_state]; exact hsteps.trans h
  cases oa with
  | inl v =>
    have ho : o = .returned v := hoc
    subst ho
    obtain ⟨t2, a1, b1⟩ := kr v S' hQ p e R s m args below meth c t.heap (locs ++ Lc) ls hI hA' hL hn U' e1 X'
    exact ⟨t2, hgo t2 a1, b1⟩
  | inr x =>
    obtain ⟨a, ce, ho, c2, c3, c4⟩ := hoc
    subst ho
    obtain ⟨t2, a1, b1⟩ := kt x S' hQ p e R s m args below meth c t.heap (locs ++ Lc) ls hI hA' hL hn a ce rest c2 c3 c4 U' e1 X'
    exact ⟨t2, hgo t2 a1, b1⟩
theorem go_stat {x : Nat} {M : pmMeth} {vs rest st0 : List Value} {mc ms : Nat} {Qc : pmA → pmS → Prop} {pc' : Nat} (hd : decode F.1.2.1 pc = .ok (.invokestatic x, 3)) (hok : pmOk M) (hst : Cond.static M.1 ∈ pmW) (hl : Cond.methodLink F.1.1.cls x M.1 ∈ pmW) (hC : Call E M vs S.1 S.2.1 mc ms Qc)
    (kr : ∀ v S', Qc (.inl v) S' → Go E F pc' L (v.toList ++ rest) (S'.1, S'.2.1, S.2.2 || S'.2.2) (k + mc) (n + ms) Q) (kt : ∀ x S', Qc (.inr x) S' → GoT E F pc L (S'.1, S'.2.1, S.2.2 || S'.2.2) (k + mc) (n + ms) Q x)
    (hs0 : st0 = vs.reverse ++ rest := by rfl) (hnp : (parseMethodDescriptor M.1.desc).map (fun d => d.parameters.length) = some vs.length := by decide +kernel) (hfr : M.2.2.2.2.2.2.2.1 + 1 ≤ F.1.2.2.2.2.2.2.2.1 := by exact Nat.le_of_ble_eq_true rfl) (hlo : 8 + (M.2.2.1 + 11) + M.2.2.2.2.2.2.2.2 ≤ F.1.2.2.2.2.2.2.2.2 := by exact Nat.le_of_ble_eq_true rfl) (hcl : k + mc ≤ F.2.2.1 := by exact Nat.le_of_ble_eq_true rfl) (hsl : n + ms ≤ F.2.2.2 := by exact Nat.le_of_ble_eq_true rfl) (hW : (rest.map fun v => v.category).sum ≤ 8 := by exact Nat.le_of_ble_eq_true rfl) (hp : pc + 3 = pc' := by rfl) : Go E F pc L st0 S k n Q := by
  intro p e R s m args below meth c H locs ls hI hA hL hn T hT X
  have hts := hI.2.2.2.2.2.2.2.2.1
  obtain ⟨mk, hnamed⟩ : ∃ mk, s.methodNamed? M.1 = some mk := by
    have h := hts _ hst
    cases hm : s.methodNamed? M.1 with
    | none => simp [Cond.before, Cond.holds, Cond.value, hm] at h
    | some mk => exact ⟨mk, rfl⟩
  obtain ⟨methM, cM, hmethM, -, -, -, -, -, -, hsigM⟩ := pmCw_spec hnamed (hts _ hok.1.1)
  have hstatic : methM.isStatic = true := Cond.static_spec hnamed hmethM (hts _ hst)
  obtain ⟨kP, hkP, -⟩ := className_of_methodNamed hnamed
  have hinitP : kP.init = .initialized := Cond.initialized_spec (findClass_of_methodNamed hnamed) hkP (hts _ hok.1.2)
  have hlen : vs.length = methM.sig.parameters.length := by
    rw [hsigM] at hnp
    exact (Option.some.inj hnp).symm
  obtain ⟨vm₁, X₁, hstep₁⟩ := X.invokestatic hI.1 hI.2.2.2.2.2.2.1 (hts _ hl) hnamed hmethM hstatic hkP hinitP hok.2.2 (g := F0 m pc ls st0) rfl (argsL := vs) (rest := rest) hlen hs0 (by rw [hI.2.1]; exact hd)
  exact pm_after hC hok hfr hlo hcl hsl hW kr kt hp hI hA hL hn hd hT X X₁ hnamed hstep₁
theorem go_virt {x b ci : Nat} {fs : List Value} {r : vw_C} {M : pmMeth} {vs rest st0 : List Value} {mc ms : Nat} {Qc : pmA → pmS → Prop} {pc' : Nat} (hd : decode F.1.2.1 pc = .ok (.invokevirtual x, 3)) (hok : pmOk M) (him : Cond.instanceMethod M.1 ∈ pmW) (hse : Cond.selects M.1.cls M.1 M.1 ∈ pmW) (hl : Cond.methodLink F.1.1.cls x M.1 ∈ pmW) (hb : S.1 b = some (pmO ci fs)) (hC : Call E M (.ref b :: vs) S.1 S.2.1 mc ms Qc)
    (kr : ∀ v S', Qc (.inl v) S' → Go E F pc' L (v.toList ++ rest) (S'.1, S'.2.1, S.2.2 || S'.2.2) (k + mc) (n + ms) Q) (kt : ∀ x S', Qc (.inr x) S' → GoT E F pc L (S'.1, S'.2.1, S.2.2 || S'.2.2) (k + mc) (n + ms) Q x)
    (hr : pmCl[ci]? = some r := by rfl) (hrc : r.1 = M.1.cls := by rfl) (hs0 : st0 = vs.reverse ++ .ref b :: rest := by rfl) (hnp : (parseMethodDescriptor M.1.desc).map (fun d => d.parameters.length) = some vs.length := by decide +kernel) (hfr : M.2.2.2.2.2.2.2.1 + 1 ≤ F.1.2.2.2.2.2.2.2.1 := by exact Nat.le_of_ble_eq_true rfl) (hlo : 8 + (M.2.2.1 + 11) + M.2.2.2.2.2.2.2.2 ≤ F.1.2.2.2.2.2.2.2.2 := by exact Nat.le_of_ble_eq_true rfl) (hcl : k + mc ≤ F.2.2.1 := by exact Nat.le_of_ble_eq_true rfl) (hsl : n + ms ≤ F.2.2.2 := by exact Nat.le_of_ble_eq_true rfl) (hW : (rest.map fun v => v.category).sum ≤ 8 := by exact Nat.le_of_ble_eq_true rfl) (hp : pc + 3 = pc' := by rfl) : Go E F pc L st0 S k n Q := by
  intro p e R s m args below meth c H locs ls hI hA hL hn T hT X
  have hts := hI.2.2.2.2.2.2.2.2.1
  obtain ⟨mk, methM, hnamed, hmethM, hstM, habM⟩ := Cond.instanceMethod_spec (hts _ him)
  obtain ⟨methM', cM, hmethM', -, -, -, -, -, -, hsigM⟩ := pmCw_spec hnamed (hts _ hok.1.1)
  cases hmethM.symm.trans hmethM'
  obtain ⟨c2, r2, m2, q1, q2, q3, q4, kP, hkP, hkPi⟩ := Cond.selects_spec (hts _ hse)
  obtain ⟨-, r', h1, -, cellB, hcB, hcls, hvm, -⟩ := hA.1 b _ hb
  cases h1.symm.trans hr
  obtain ⟨-, hfc, -⟩ := (hI.2.2.2.2.2.2.2.2.2.1.1).1 ci _ h1
  rw [hrc] at hfc
  cases hfc.symm.trans q1
  cases (State.methodFound?_of_named hnamed hok.2.2).symm.trans q2
  cases hnamed.symm.trans q3
  have hselP : selectMethod e.platform s.vm cellB.cls mk = .method mk := by rw [Launch.admits_selectMethod X.admits, hcls]; exact q4
  have hlen : vs.length = methM.sig.parameters.length := by
    rw [hsigM] at hnp
    exact (Option.some.inj hnp).symm
  obtain ⟨vm₁, X₁, hstep₁⟩ := X.invokevirtual hI.1 hI.2.2.2.2.2.2.1 (hts _ hl) hnamed hmethM hstM hkP hkPi hok.2.2 (a := b) (cell := cellB) (by rw [hT]; exact hcB)
    (fun z h => by rw [hvm] at h; cases h) hselP hmethM habM hkP hkPi (g := F0 m pc ls st0) rfl (argsL := vs) (rest := rest) hlen hs0 (by rw [hI.2.1]; exact hd)
  exact pm_after hC hok hfr hlo hcl hsl hW kr kt hp hI hA hL hn hd hT X X₁ hnamed hstep₁
theorem go_init {x b : Nat} {M : pmMeth} {vs rest st0 : List Value} {mc ms : Nat} {Qc : pmA → pmS → Prop} {pc' : Nat} (hd : decode F.1.2.1 pc = .ok (.invokespecial x, 3)) (hok : pmOk M) (him : Cond.instanceMethod M.1 ∈ pmW) (hcd : Cond.code M.1 M.2.1 M.2.2.1 none ∈ pmW) (hl : Cond.methodLink F.1.1.cls x M.1 ∈ pmW ∨ Cond.methodLinkNest F.1.1.cls x M.1 "PortableFiles" ∈ pmNest) (hC : Call E M (.ref b :: vs) S.1 S.2.1 mc ms Qc)
    (kr : ∀ v S', Qc (.inl v) S' → Go E F pc' L (v.toList ++ rest) (S'.1, S'.2.1, S.2.2 || S'.2.2) (k + mc) (n + ms) Q) (kt : ∀ x S', Qc (.inr x) S' → GoT E F pc L (S'.1, S'.2.1, S.2.2 || S'.2.2) (k + mc) (n + ms) Q x)
    (hy1 : M.1.name = "<init>" := by rfl) (hs0 : st0 = vs.reverse ++ .ref b :: rest := by rfl) (hnp : (parseMethodDescriptor M.1.desc).map (fun d => d.parameters.length) = some vs.length := by decide +kernel) (hfr : M.2.2.2.2.2.2.2.1 + 1 ≤ F.1.2.2.2.2.2.2.2.1 := by exact Nat.le_of_ble_eq_true rfl) (hlo : 8 + (M.2.2.1 + 11) + M.2.2.2.2.2.2.2.2 ≤ F.1.2.2.2.2.2.2.2.2 := by exact Nat.le_of_ble_eq_true rfl) (hcl : k + mc ≤ F.2.2.1 := by exact Nat.le_of_ble_eq_true rfl) (hsl : n + ms ≤ F.2.2.2 := by exact Nat.le_of_ble_eq_true rfl) (hW : (rest.map fun v => v.category).sum ≤ 8 := by exact Nat.le_of_ble_eq_true rfl) (hp : pc + 3 = pc' := by rfl) : Go E F pc L st0 S k n Q := by
  intro p e R s m args below meth c H locs ls hI hA hL hn T hT X
  have hts := hI.2.2.2.2.2.2.2.2.1
  have hpl : e.platform.magicAccessors = ({} : Platform).magicAccessors := by rw [X.admits.platform]
  have hlen : ∀ sig, parseMethodDescriptor M.1.desc = some sig → vs.length = sig.parameters.length := fun sig h => by
    rw [h] at hnp
    exact (Option.some.inj hnp).symm
  rcases hl with hl | hl
  · obtain ⟨mk, methM, cM, kP, vm₁, hnamed, hmethM, hcodeM, -, hlocalsM, -, hkP, -, hW₁, hstep₁⟩ := Steps.initColdArgs (e := e) X.here hI.1 X.warmed hpl hI.2.2.2.2.2.2.1 hy1 hok.2.2 (hts _ hl) (hts _ him) (hts _ hcd) (f := F0 m pc ls st0) rfl hlen hs0 (by rw [hI.2.1]; exact hd)
    exact pm_after hC hok hfr hlo hcl hsl hW kr kt hp hI hA hL hn hd hT X (X.noted hW₁) hnamed hstep₁
  · have hl' : (Cond.methodLinkNest F.1.1.cls x M.1 "PortableFiles").before args s = true := va_Nw.use rfl ((hI.2.2.2.2.2.2.2.2.2.1).2.2.2.2.2.2.1 _ hl)
    obtain ⟨mk, methM, cM, kP, vm₁, hnamed, hmethM, hcodeM, -, hlocalsM, -, hkP, -, hW₁, hstep₁⟩ := Steps.initColdArgsNest (e := e) X.here hI.1 X.warmed hpl hI.2.2.2.2.2.2.1 hy1 hok.2.2 hl' (hts _ him) (hts _ hcd) (f := F0 m pc ls st0) rfl hlen hs0 (by rw [hI.2.1]; exact hd)
    exact pm_after hC hok hfr hlo hcl hsl hW kr kt hp hI hA hL hn hd hT X (X.noted hW₁) hnamed hstep₁
end GOI
