/-! ===== methods: contracts, entries, calls that answer or throw ===== -/
def pmRm (M : pmMeth) (mc ms : Nat) : Room := { frames := M.2.2.2.2.2.2.2.1, cells := mc, slots := ms, locals := M.2.2.2.2.2.2.2.2 }
def pmPre (E : pmEv) (as : List Value) (h : pmH) (z : Option Nat) : Array Value → State → Prop := fun v U => v = as.toArray ∧ pmKn E U ∧ pmHI E U h U.heap ∧ (∀ n, z = some n → U.heap.size = n) ∧ E.1.flags = pinnedFlags ++ [noTraceFlag]
/-- a method's contract: from the map h (the heap's size z, if it is known), with room for mc cells of ms slots, it ends in Q -/
def Call (E : pmEv) (M : pmMeth) (as : List Value) (h : pmH) (z : Option Nat) (mc ms : Nat) (Q : pmA → pmS → Prop) : Prop :=
  MetFree E.1 M.1 (headSpec (pmCw M :: pmW) (pmRm M mc ms)) (pmPre E as h z) (fun _ _ _ _ _ => True) (fun _ st oc t => pmEnd E h mc ms Q st oc t)
theorem Call.mono {E : pmEv} {M : pmMeth} {as : List Value} {h : pmH} {z : Option Nat} {mc ms : Nat} {Q Q' : pmA → pmS → Prop} (hC : Call E M as h z mc ms Q) (hq : ∀ o S, Q o S → Q' o S) : Call E M as h z mc ms Q' := by
  intro p e h1 h2 h3 s m args below h4 h5 h6 h7
  obtain ⟨n, o, a1, a2, a3, oo, S, b1, b2⟩ := hC p e h1 h2 h3 s m args below h4 h5 h6 h7
  exact ⟨n, o, a1, a2, a3, oo, S, hq _ _ b1, b2⟩
def pmSl (vs : List Value) : pmL := (lg_sl vs).map (fun z => match z with
  | .val v => some v
  | _ => none)
def pmInit (M : pmMeth) (vs : List Value) : pmL := pmSl vs ++ List.replicate (M.2.2.1 - (pmSl vs).length) none
theorem pmInit_ls {M : pmMeth} {vs : List Value} (h : (pmSl vs).length ≤ M.2.2.1) : pmLs ((lg_sl vs ++ List.replicate (M.2.2.1 - (lg_sl vs).length) Slot.unset).toArray) (pmInit M vs) ∧ (pmInit M vs).length = M.2.2.1 := by
  have hlen : (pmSl vs).length = (lg_sl vs).length := by simp [pmSl]
  have hl := lv_entry vs (n := M.2.2.1) (by rw [← hlen]; exact h)
  have hL : (pmInit M vs).length = M.2.2.1 := by simp only [pmInit, List.length_append, List.length_replicate]; omega
  have hmap : pmInit M vs = (lg_sl vs ++ List.replicate (M.2.2.1 - (lg_sl vs).length) Slot.unset).map (fun z => match z with
    | .val v => some v
    | _ => none) := by
    simp [pmInit, pmSl]
  refine ⟨⟨by rw [hl.1, hL], hl.2.1, fun i v hv => ?_⟩, hL⟩
  rw [hmap, List.getElem?_map] at hv
  rw [List.getElem?_toArray]
  cases hz : (lg_sl vs ++ List.replicate (M.2.2.1 - (lg_sl vs).length) Slot.unset)[i]? with
  | none => rw [hz] at hv; simp at hv
  | some z =>
    rw [hz] at hv
    simp only [Option.map_some, Option.some.injEq] at hv
    cases z with
    | val u => simp at hv; rw [hv]
    | unset => simp at hv
    | second => simp at hv
theorem pmCw_spec {M : pmMeth} {args : Array Value} {s : State} {m : MethodId} (hn : s.methodNamed? M.1 = some m) (h : (pmCw M).before args s = true) :
    ∃ meth c, s.vm.method? m = some meth ∧ meth.code = some c ∧ c.code = M.2.1 ∧ c.maxLocals = M.2.2.1 ∧ meth.sig.returnType = M.2.2.2.1 ∧ meth.locks = false ∧
      c.exceptionTable.toList.map (fun h => (h.startPc, h.endPc, h.handlerPc, h.catchType)) = M.2.2.2.2.1 ∧ parseMethodDescriptor M.1.desc = some meth.sig := by
  obtain ⟨y, cc, ml, rt, hh, q⟩ := M
  cases hh with
  | nil =>
    obtain ⟨meth, c, h1, h2, h3, h4, h5, h6, h7, h8⟩ := Cond.code_spec hn (show (Cond.code y cc ml rt).before args s = true from h)
    exact ⟨meth, c, h1, h2, h3, h4, h5, h6, by simp [Array.isEmpty_iff.mp h7], h8⟩
  | cons a r =>
    obtain ⟨m9, meth, c, hn9, h1, h2, h3, h4, h7, h5, h6, h8⟩ := Cond.codeWith_spec (show (Cond.codeWith y cc ml rt (a :: r)).before args s = true from h)
    cases hn.symm.trans hn9
    exact ⟨meth, c, h1, h2, h3, h4, h5, h6, h7, h8⟩
theorem call_of {E : pmEv} {M : pmMeth} {vs : List Value} {hm : pmH} {z : Option Nat} {mc ms : Nat} {Q : pmA → pmS → Prop} (hok : pmOk M) (hl : (pmSl vs).length ≤ M.2.2.1) {L : pmL} (h : Go E (M, hm, mc, ms) 0 L [] (hm, z, false) 0 0 Q) (hL : pmInit M vs = L := by rfl) : Call E M vs hm z mc ms Q := by
  subst hL
  refine MetFree.of_bodySF (code := M.2.1) (maxLocals := M.2.2.1) (ret := M.2.2.2.1) hok.2.1 ?_ ?_
  · intro args s m hpre hn
    obtain ⟨meth, c, h1, h2, h3, h4, h5, h6, -, -⟩ := pmCw_spec hn (atoms_spec (ws := pmCw M :: pmW) hpre _ List.mem_cons_self)
    exact ⟨meth, c, h1, h2, h3, h4, h5, h6⟩
  · intro p e s m args below meth c s₁ B hml hP _
    obtain ⟨rfl, hKn, hHI, hz, hfl⟩ := hP
    have hts := atoms_spec (ws := pmCw M :: pmW) B.pre
    obtain ⟨meth', c', h1, h2, h3, h4, h5, h6, h7, h8⟩ := pmCw_spec B.named (hts _ List.mem_cons_self)
    cases B.method.symm.trans h1
    cases (Stand.of_body B).code.symm.trans h2
    obtain ⟨hls, hlen⟩ := pmInit_ls (M := M) (vs := vs) hl
    have hh0 : s₁.heap = s.heap := by rw [B.state]; rfl
    have hI : pmIs E (M, hm, mc, ms) p (pmRm M mc ms) s m vs.toArray meth c := ⟨B.exec, h3, h4, h5, h6, h7, findClass_of_methodNamed B.named, (name_of_methodNamed B.named B.method).1, fun w hw => hts w (List.mem_cons_of_mem _ hw), hKn, ⟨rfl, rfl, rfl, rfl⟩, hfl, hHI⟩
    have hA : pmAt E (M, hm, mc, ms) s (hm, z, false) s.heap [] := ⟨hHI, hz, va_S.rf, fun _ => ⟨rfl, rfl⟩⟩
    obtain ⟨t, a1, oc, a2, a3, a4⟩ := h p e (pmRm M mc ms) s m vs.toArray below meth c s.heap [] _ hI hA hls hlen s₁ hh0 (Stand.of_body B)
    rw [← lg_entry_eq m vs M.2.2.1] at a1
    exact ⟨t, oc, a1, a2, a3, a4⟩
/-- what stands behind a call -/
def pmBack (g : JFrame) (len : Nat) (U : State) (o : Outcome) : State := match o with
  | .returned v => U.setTop { g with pc := g.pc + len, stack := v.toList ++ g.stack }
  | .threw x => (U.setTop g).pushFrame (.throwing x)
theorem pm_bk {E : pmEv} {M : pmMeth} {vs : List Value} {hm : pmH} {z : Option Nat} {mc ms : Nat} {Qc : pmA → pmS → Prop} (hC : Call E M vs hm z mc ms Qc) (hok : pmOk M) {p : Program} {e : Env} {R : Room} {s : State} {m : MethodId} {sargs : Array Value} {below : List Frame} {meth : Method} {c : Code} {U : State} {locs : List Loc} {k n : Nat}
    (X : Stand p E.1 e R s m sargs below meth c U locs k n) {g : JFrame} (hg : g.method = m) (hsize : g.locals.size = c.maxLocals) {ig : Instr} {len : Nat} (hdg : decode c.code g.pc = .ok (ig, len)) (hW : 2 * g.monitorRoom + (g.stack.map fun v => v.category).sum ≤ 8) {mk : MethodId} (hn : U.methodNamed? M.1 = some mk)
    (hfr : M.2.2.2.2.2.2.2.1 + 1 ≤ R.frames) (hlo : 8 + (M.2.2.1 + 11) + M.2.2.2.2.2.2.2.2 ≤ R.locals) (hcl : k + mc ≤ R.cells) (hsl : n + ms ≤ R.slots)
    (hwd : ∀ w ∈ pmW, w.before sargs s = true) (hP : pmPre E vs hm z vs.toArray (U.calling g mk vs.toArray)) :
    ∃ (o : Outcome) (t U' : State) (L : List Loc) (oa : pmA) (S : pmS), Stand p E.1 e R s m sargs below meth c U' (locs ++ L) (k + mc) (n + ms) ∧ U'.heap = t.heap ∧ U'.vm = t.vm ∧ Qc oa S ∧ pmOc s t oa o ∧ (∀ q ∈ L, E.2.1 ≤ q.base) ∧ (S.2.2 = false → L = [] ∧ S.1 = hm) ∧ pmHI E s S.1 t.heap ∧ (∀ n, S.2.1 = some n → t.heap.size = n) ∧ va_F (pmA0 E) U t ∧
      Steps p.tables e below (doInvoke e (U.setTop g) [] mk vs.toArray).1 (pmBack g len U' o) := by
  have hws : ∀ w ∈ pmW, ∀ (a' : Array Value) (U' : State), s.WarmedH U'.vm → w.before a' U' = true := pay_in hwd pmW_self
  have hcw : (pmCw M).before vs.toArray U = true := hws _ hok.1.1 _ _ X.warmed
  obtain ⟨methY, cY, hmY, hcY, -, hlY, -, -, -, -⟩ := pmCw_spec hn hcw
  obtain ⟨kY, hkY, -⟩ := className_of_methodNamed hn
  have hinitY : kY.init = .initialized := Cond.initialized_spec (findClass_of_methodNamed hn) hkY (hws _ hok.1.2 vs.toArray _ X.warmed)
  have h : At U g.method c below := by rw [hg]; exact X.here
  have hpre : (headSpec (pmCw M :: pmW) (pmRm M mc ms)).pre.before vs.toArray U = true := atoms_intro fun w hw => by
    rcases List.mem_cons.mp hw with rfl | hw
    · exact hcw
    · exact hws w hw _ _ X.warmed
  have happ : (headSpec (pmCw M :: pmW) (pmRm M mc ms)).appliesLoose M.1 e.platform (U.calling g mk vs.toArray) = true :=
    Spec.appliesLoose_calling (g := g) h hdg hn hkY hinitY
      (X.room_calling (g := g) (R' := pmRm M mc ms) hsize hmY hcY hfr (by rw [hlY]; show _ + _ + M.2.2.2.2.2.2.2.2 ≤ _; omega) hcl hsl) hpre
  obtain ⟨mid, hmid⟩ := h.above
  have hfrm : (U.setTop g).frames = (.java g :: mid) ++ below := by rw [State.frames_setTop' g h.top, hmid]; rfl
  obtain ⟨o, s₂, hsteps, -, hend, hq⟩ := Steps.callFree hC p X.admits X.cas X.clock (acts := []) hfrm happ hP trivial
  rw [State.frames_setTop' g h.top] at hend
  have hq' : pmEnd E hm mc ms Qc (U.calling g mk vs.toArray) o s₂ := hq
  obtain ⟨oa, S, hQ, hoc, hW₂, ⟨L, ⟨e2, q2, q3, q4, q5, q6⟩, hL, hdirty⟩, hHI, hz, hF⟩ := hq'
  have e3 : s₂ = ({ (U.calling g mk vs.toArray).setFrames s₂.frames with heap := s₂.heap, slotsUsed := s₂.slotsUsed } : State).setVm s₂.vm := by
    have : s₂ = ({ s₂ with vm := (U.calling g mk vs.toArray).vm } : State).setVm s₂.vm := rfl
    rw [e2] at this
    exact this
  have hW' : U.WarmedH s₂.vm := hW₂
  obtain ⟨g₀, hg0⟩ := Option.isSome_iff_exists.mp h.top
  obtain ⟨r, hr⟩ := State.topJava?_eq_some.mp hg0
  have hsame : U.sameButNew ({ U with heap := s₂.heap, slotsUsed := s₂.slotsUsed } : State) L mc ms := by
    refine ⟨?_, q2, q3, q4, q5, q6⟩
    obtain ⟨t, ht, -⟩ := State.frames_cons hr
    show ({ U with heap := s₂.heap, slotsUsed := s₂.slotsUsed } : State) = { U.setFrames U.frames with heap := s₂.heap, slotsUsed := s₂.slotsUsed }
    rw [State.setFrames_self ht]
  have hr' : (({ U with heap := s₂.heap, slotsUsed := s₂.slotsUsed } : State).setVm s₂.vm).frames = .java g₀ :: r := hr
  have hst : Stand p E.1 e R s m sargs below meth c (({ U with heap := s₂.heap, slotsUsed := s₂.slotsUsed } : State).setVm s₂.vm) (locs ++ L) (k + mc) (n + ms) :=
    ⟨X.admits, X.cas, X.clock, X.frames, X.room, X.hears, X.method, X.code, (X.here.setHeapUsed s₂.heap s₂.slotsUsed).setVm hW'.alike, X.tail, State.WarmedH.trans X.warmed hW', X.limits, X.bytes, X.same.trans (hsame.setVm s.vm)⟩
  have hal : (U.calling g mk vs.toArray).vm.Alike s.vm := X.warmed.alike.symm
  have hoc' : pmOc s s₂ oa o := by
    cases oa with
    | inl v => exact hoc
    | inr x =>
      obtain ⟨a, ce, c1, c2, c3, c4⟩ := hoc
      exact ⟨a, ce, c1, c2, c3, by rw [hal.findClass]; exact c4⟩
  refine ⟨o, s₂, (({ U with heap := s₂.heap, slotsUsed := s₂.slotsUsed } : State).setVm s₂.vm), L, oa, S, hst, rfl, rfl, hQ, hoc', hL, hdirty, hHI.moved hal, hz, hF, ?_⟩
  cases o with
  | returned v =>
    obtain ⟨c₂, i₂, len₂, hc₂, hd₂, hf₂⟩ := hend
    have hcc : c₂ = c := by
      have h1 : s₂.code? g.method = U.code? g.method := by
        rw [State.code?_eq, State.code?_eq, hW'.alike.method?]
      exact Option.some.inj (hc₂.symm.trans (h1.trans h.code))
    subst hcc
    have hlen : len₂ = len := by rw [hdg] at hd₂; cases hd₂; rfl
    subst hlen
    have hs₂ : s₂ = (({ U with heap := s₂.heap, slotsUsed := s₂.slotsUsed } : State).setVm s₂.vm).setTop { g with pc := g.pc + len₂, stack := v.toList ++ g.stack } := by
      refine e3.trans ?_
      rw [hf₂, State.calling_eq h.top, State.setFrames_setFrames, State.setTop_of_frames _ hr', hr]
      rfl
    show Steps p.tables e below _ ((({ U with heap := s₂.heap, slotsUsed := s₂.slotsUsed } : State).setVm s₂.vm).setTop { g with pc := g.pc + len₂, stack := v.toList ++ g.stack })
    rw [← hs₂]
    exact hsteps
  | threw v =>
    have hf₂ : s₂.frames = .throwing v :: .java g :: U.frames.tail := hend
    have hs₂ : s₂ = ((({ U with heap := s₂.heap, slotsUsed := s₂.slotsUsed } : State).setVm s₂.vm).setTop g).pushFrame (.throwing v) := by
      refine e3.trans ?_
      rw [hf₂, State.calling_eq h.top, State.setFrames_setFrames, State.pushFrame, State.frames_setTop _ hr', State.setTop_of_frames _ hr', State.setFrames_setFrames, hr]
      rfl
    show Steps p.tables e below _ (((({ U with heap := s₂.heap, slotsUsed := s₂.slotsUsed } : State).setVm s₂.vm).setTop g).pushFrame (.throwing v))
    rw [← hs₂]
    exact hsteps
