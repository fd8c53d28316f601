/-! ===== throws and catches (the words of the four exceptions printed by wip/whole/gen_throw.py) ===== -/
/-- the words of a throw that are no lasting words of the tables -/
def pmBad (X : String) : List Cond := [.laysStatic "java/lang/Throwable" "UNASSIGNED_STACK" "[Ljava/lang/StackTraceElement;", .laysStatic "java/lang/Throwable" "SUPPRESSED_SENTINEL" "Ljava/util/List;", .declares ⟨"java/lang/RuntimeException", "<init>", "(Ljava/lang/String;)V"⟩, .declares ⟨"java/lang/Exception", "<init>", "(Ljava/lang/String;)V"⟩, .declares ⟨"java/lang/Throwable", "<init>", "(Ljava/lang/String;)V"⟩, .castable X X, .isRef (.static "java/lang/Throwable" "UNASSIGNED_STACK" "[Ljava/lang/StackTraceElement;"), .isRef (.static "java/lang/Throwable" "SUPPRESSED_SENTINEL" "Ljava/util/List;")]
theorem qa_0 : ∀ w ∈ (Bundle.ownAtoms "PortableFiles" 59 "java/lang/IllegalStateException" ["java/lang/RuntimeException", "java/lang/Exception"]).filter goodWord, w ∈ pmW := pmWs [11, 561, 570, 575, 578, 580, 562, 563, 30, 31, 564, 569, 576, 596, 551, 597, 553, 598, 555, 565, 567, 557, 592, 593, 595, 557, 629, 630, 631, 586, 586, 587, 588, 589, 589, 590, 591, 592, 628, 619, 621, 572, 622, 623, 624, 625, 560, 559, 626] (by decide +kernel) (by decide +kernel)
theorem qb_0 : (Bundle.ownAtoms "PortableFiles" 59 "java/lang/IllegalStateException" ["java/lang/RuntimeException", "java/lang/Exception"]).filter (fun w => !goodWord w) = pmBad "java/lang/IllegalStateException" := by decide +kernel
theorem qX_0 : Jvm.Cond.instantiable "java/lang/IllegalStateException" (6) ∈ pmW := pmW_tb (i := 619) (by decide +kernel) rfl
theorem qY_0 : Jvm.Cond.initialized "java/lang/IllegalStateException" ∈ pmW := pmW_tb (i := 16) (by decide +kernel) rfl
theorem qa_1 : ∀ w ∈ (Bundle.ownAtoms "PortableFiles" 40 "java/lang/IllegalArgumentException" ["java/lang/RuntimeException", "java/lang/Exception"]).filter goodWord, w ∈ pmW := pmWs [11, 561, 570, 575, 578, 580, 562, 563, 30, 31, 564, 569, 576, 596, 551, 597, 553, 598, 555, 565, 567, 557, 592, 593, 595, 557, 583, 584, 585, 586, 586, 587, 588, 589, 589, 590, 591, 592, 582, 540, 548, 549, 550, 552, 554, 556, 560, 559, 558] (by decide +kernel) (by decide +kernel)
theorem qb_1 : (Bundle.ownAtoms "PortableFiles" 40 "java/lang/IllegalArgumentException" ["java/lang/RuntimeException", "java/lang/Exception"]).filter (fun w => !goodWord w) = pmBad "java/lang/IllegalArgumentException" := by decide +kernel
theorem qX_1 : Jvm.Cond.instantiable "java/lang/IllegalArgumentException" (6) ∈ pmW := pmW_tb (i := 540) (by decide +kernel) rfl
theorem qY_1 : Jvm.Cond.initialized "java/lang/IllegalArgumentException" ∈ pmW := pmW_tb (i := 14) (by decide +kernel) rfl
theorem qa_2 : ∀ w ∈ (Bundle.ownAtoms "PortableFiles" 104 "java/lang/IndexOutOfBoundsException" ["java/lang/RuntimeException", "java/lang/Exception"]).filter goodWord, w ∈ pmW := pmWs [11, 561, 570, 575, 578, 580, 562, 563, 30, 31, 564, 569, 576, 596, 551, 597, 553, 598, 555, 565, 567, 557, 592, 593, 595, 557, 699, 700, 701, 586, 586, 587, 588, 589, 589, 590, 591, 592, 698, 689, 691, 573, 692, 693, 694, 695, 560, 559, 696] (by decide +kernel) (by decide +kernel)
theorem qb_2 : (Bundle.ownAtoms "PortableFiles" 104 "java/lang/IndexOutOfBoundsException" ["java/lang/RuntimeException", "java/lang/Exception"]).filter (fun w => !goodWord w) = pmBad "java/lang/IndexOutOfBoundsException" := by decide +kernel
theorem qX_2 : Jvm.Cond.instantiable "java/lang/IndexOutOfBoundsException" (6) ∈ pmW := pmW_tb (i := 689) (by decide +kernel) rfl
theorem qY_2 : Jvm.Cond.initialized "java/lang/IndexOutOfBoundsException" ∈ pmW := pmW_tb (i := 21) (by decide +kernel) rfl
theorem qa_3 : ∀ w ∈ (Bundle.ownAtoms "PortableFiles" 86 "java/lang/UnsupportedOperationException" ["java/lang/RuntimeException", "java/lang/Exception"]).filter goodWord, w ∈ pmW := pmWs [11, 561, 570, 575, 578, 580, 562, 563, 30, 31, 564, 569, 576, 596, 551, 597, 553, 598, 555, 565, 567, 557, 592, 593, 595, 557, 650, 651, 652, 586, 586, 587, 588, 589, 589, 590, 591, 592, 649, 640, 642, 574, 643, 644, 645, 646, 560, 559, 647] (by decide +kernel) (by decide +kernel)
theorem qb_3 : (Bundle.ownAtoms "PortableFiles" 86 "java/lang/UnsupportedOperationException" ["java/lang/RuntimeException", "java/lang/Exception"]).filter (fun w => !goodWord w) = pmBad "java/lang/UnsupportedOperationException" := by decide +kernel
theorem qX_3 : Jvm.Cond.instantiable "java/lang/UnsupportedOperationException" (6) ∈ pmW := pmW_tb (i := 640) (by decide +kernel) rfl
theorem qY_3 : Jvm.Cond.initialized "java/lang/UnsupportedOperationException" ∈ pmW := pmW_tb (i := 18) (by decide +kernel) rfl
/-- the constructors' places in PortableFiles, and the exceptions -/
def pmXi : List (Nat × String) := [(59, "java/lang/IllegalStateException"), (40, "java/lang/IllegalArgumentException"), (104, "java/lang/IndexOutOfBoundsException"), (86, "java/lang/UnsupportedOperationException")]
theorem pmXi_ok : ∀ q ∈ pmXi, (∀ w ∈ (Bundle.ownAtoms "PortableFiles" q.1 q.2 ["java/lang/RuntimeException", "java/lang/Exception"]).filter goodWord, w ∈ pmW) ∧ (Bundle.ownAtoms "PortableFiles" q.1 q.2 ["java/lang/RuntimeException", "java/lang/Exception"]).filter (fun w => !goodWord w) = pmBad q.2 ∧ q.2 ∈ pmXs ∧ Cond.instantiable q.2 6 ∈ pmW ∧ Cond.initialized q.2 ∈ pmW ∧ Bundle.fit q.2 = true := by
  intro q hq
  simp only [pmXi, List.mem_cons, List.not_mem_nil, or_false] at hq
  rcases hq with rfl | rfl | rfl | rfl
  · exact ⟨qa_0, qb_0, by simp [pmXs], qX_0, qY_0, by decide +kernel⟩
  · exact ⟨qa_1, qb_1, by simp [pmXs], qX_1, qY_1, by decide +kernel⟩
  · exact ⟨qa_2, qb_2, by simp [pmXs], qX_2, qY_2, by decide +kernel⟩
  · exact ⟨qa_3, qb_3, by simp [pmXs], qX_3, qY_3, by decide +kernel⟩
theorem pm_isRef {E : pmEv} {s : State} {C nm d : String} {args : Array Value} (h : va_Zq C nm d (pmA0 E) s s.heap) : (Cond.isRef (.static C nm d)).before args s = true := by
  rcases h with h | ⟨t, h⟩
  · obtain ⟨cf, kf, fi, f, a, cell, h1, h2, h3, h4, h5, h6, h7, -⟩ := h
    simp [Cond.before, Cond.holds, Cond.value, Term.eval, State.fieldNamed?, h1, h2, h4, h5, h6, h7]
  · obtain ⟨cf, kf, fi, f, a, cell, h1, h2, h3, h4, h5, h6, h7, -⟩ := h
    simp [Cond.before, Cond.holds, Cond.value, Term.eval, State.fieldNamed?, h1, h2, h4, h5, h6, h7]
theorem pm_atoms {E : pmEv} {s : State} {args : Array Value} {q : Nat × String} (hq : q ∈ pmXi) (hts : ∀ w ∈ pmW, w.before args s = true) (hK : pmKn E s) : ∀ a ∈ Bundle.ownAtoms "PortableFiles" q.1 q.2 ["java/lang/RuntimeException", "java/lang/Exception"], a.before args s = true := by
  obtain ⟨h1, h2, hx, -⟩ := pmXi_ok q hq
  intro a ha
  cases hg : goodWord a with
  | true => exact hts _ (h1 a (List.mem_filter.mpr ⟨ha, hg⟩))
  | false =>
    have h3 : a ∈ (Bundle.ownAtoms "PortableFiles" q.1 q.2 ["java/lang/RuntimeException", "java/lang/Exception"]).filter (fun w => !goodWord w) := List.mem_filter.mpr ⟨ha, by simp [hg]⟩
    rw [h2] at h3
    obtain ⟨-, -, -, -, k5, k6, -, -, -, ⟨k10, k11⟩, k12, k13⟩ := hK
    simp only [pmBad, List.mem_cons, List.not_mem_nil, or_false] at h3
    rcases h3 with rfl | rfl | rfl | rfl | rfl | rfl | rfl | rfl
    · exact k10.use
    · exact k11.use
    · exact va_Nw.use rfl (k13 _ (by simp [pmXd]))
    · exact va_Nw.use rfl (k13 _ (by simp [pmXd]))
    · exact va_Nw.use rfl (k13 _ (by simp [pmXd]))
    · exact va_Nw.use rfl (k12 _ hx)
    · exact pm_isRef k5
    · exact pm_isRef k6
theorem pm_ldcwS {p : Program} {l : Launch} {e : Env} {R : Room} {s : State} {m : MethodId} {args : Array Value} {below : List Frame} {meth : Method} {c : Code} {T : State} {locs : List Loc} {cells slots : Nat}
    (X : Stand p l e R s m args below meth c T locs cells slots) (hexec : p.tables.exec = Jvm.exec) {own text : String} {index : Nat} {a : Addr} (hown : s.vm.findClass own = some m.cls)
    (hconst : (Cond.stringRef own index text).before args s = true) (hev : (Term.string own index).eval args s none [] s = some (.ref a)) {g : JFrame} (hg : g.method = m) (hdg : decode c.code g.pc = .ok (.ldc_w index, 3)) :
    ∀ target, Steps p.tables e below (T.setTop { g with pc := g.pc + 3, stack := .ref a :: g.stack }) target → Steps p.tables e below (T.setTop g) target := by
  obtain ⟨k, cf, i, a', hk, hcf, hcp, -, hr, hev'⟩ := Cond.stringRef_spec hown hconst
  cases hev.symm.trans hev'
  obtain ⟨k', hk', he⟩ := X.warmed.alike.2.2 _ _ hk
  have hr' : k'.resolved[index]? = some (some (.string a)) := by
    rcases X.warmed.entry hk hk' index with h | ⟨h, -⟩
    · rw [h]; exact hr
    · rw [hr] at h; cases h
  intro target hrest
  subst hg
  jvm_step X.here [hexec, hdg, ldc_w.wp_string (e := e) (s := T) (f := g) X.here.top hk' (by rw [he]; exact hcf) hcp hr']
  exact hrest
theorem pm_ldcw {p : Program} {l : Launch} {e : Env} {R : Room} {s : State} {m : MethodId} {args : Array Value} {below : List Frame} {meth : Method} {c : Code} {H : Heap} {locs : List Loc} {cells slots : Nat} {Q : State → Prop} {cc : ByteArray} {pc : Nat} {ls : Array Slot} {rest : List Value} (hexec : p.tables.exec = Jvm.exec) (hb : c.code = cc) {own tx : String} {index q : Nat} (hown : s.vm.findClass own = some m.cls) (hZ : vk_R own index tx q s) (hdg : decode cc pc = .ok (.ldc_w index, 3))
    (k : W p l e R s m args below meth c H locs cells slots Q (F0 m (pc + 3) ls (.ref q :: rest))) : W p l e R s m args below meth c H locs cells slots Q (F0 m pc ls rest) := by
  intro T hT X
  obtain ⟨t, a1, b1⟩ := k T hT X
  exact ⟨t, pm_ldcwS X hexec hown (text := tx) (a := q) hZ.1 hZ.2 (g := F0 m pc ls rest) rfl (by rw [hb]; exact hdg) t a1, b1⟩
section GOX
variable {E : pmEv} {F : pmFr} {pc : Nat} {L : pmL} {S : pmS} {k n : Nat} {Q : pmA → pmS → Prop}
/-- the constructor and the throw, where nothing has been written -/
theorem pm_ctor {x pc5 : Nat} {q : Nat × String} (hq : pmXi[x]? = some q) (hown : F.1.1.cls = "PortableFiles") (hd5 : decode F.1.2.1 pc5 = .ok (.invokespecial q.1, 3)) (hd6 : decode F.1.2.1 (pc5 + 3) = .ok (.athrow, 1)) (hh : F.1.2.2.2.2.1 = []) (hcl : k + 1 ≤ F.2.2.1) (hsl : n + 6 ≤ F.2.2.2) (hfr : 6 ≤ F.1.2.2.2.2.2.2.2.1) (hlo : 82 ≤ F.1.2.2.2.2.2.2.2.2) (hQ : Q (.inr x) (S.1, none, false))
    {p : Program} {e : Env} {R : Room} {s : State} {m : MethodId} {args : Array Value} {below : List Frame} {meth : Method} {c : Code} {H0 H : Heap} {ls : Array Slot} (hI : pmIs E F p R s m args meth c) (hA : pmAt E F s S H0 []) (hL : pmLs ls L) (hn : L.length = F.1.2.2.1) (hclean : S.2.2 = false)
    {cC : ClassId} {kC : Class} (h1 : s.vm.findClass q.2 = some cC) (h2 : s.vm.classes[cC]? = some kC) (hH : H = H0.push { cls := cC, slots := kC.instanceTypes.map defaultValue, vm := .none }) (t0 : Nat) :
    W p E.1 e R s m args below meth c H [] (k + 1) (n + 6) (pmZ E F Q below s) (F0 m pc5 ls [.ref t0, .ref H0.size, .ref H0.size]) := by
  intro T hT X
  subst hH
  have hlocks := hI.2.2.2.2.1
  have hqm : q ∈ pmXi := List.mem_of_getElem? hq
  have htr : e.platform.stackTraces = false := Launch.traces_off hI.2.2.2.2.2.2.2.2.2.2.2.1 X.admits
  have hR := hI.2.2.2.2.2.2.2.2.2.2.1
  have hcls := hI.2.2.2.2.2.2.1
  rw [hown] at hcls
  obtain ⟨-, -, -, -, -, hfit⟩ := pmXi_ok q hqm
  obtain ⟨U, hst, hrun, hend, hWU, hsame, ce, hce, hcell⟩ := X.ctorThrowS hI.1 htr (own := "PortableFiles") (cls := q.2) (names := ["java/lang/RuntimeException", "java/lang/Exception"]) (ic := q.1) hcls hfit (by decide +kernel) (pm_atoms hqm hI.2.2.2.2.2.2.2.2.1 hI.2.2.2.2.2.2.2.2.2.1) (fun x hx => by cases hx)
    (a := H0.size) h1 h2 (by rw [hT]; simp [freshCell]) (hA.2.2.1.1) (msg := .ref t0) rfl (g := F0 m pc5 ls [.ref t0, .ref H0.size, .ref H0.size]) rfl (by show ls.size = _; rw [hI.2.2.1, ← hn]; exact hL.1) rfl rfl (rest := []) rfl (by rw [hI.2.1]; exact hd5) (by rw [hI.2.1]; exact hd6)
    (fun y hy => by
      have h6 := hI.2.2.2.2.2.1
      rw [hh] at h6
      rw [List.map_eq_nil_iff.mp h6] at hy
      cases hy) (by rw [hR.1]; show 2 + 3 < _; omega) (by rw [hR.2.1]; simp [JFrame.monitorRoom, Value.category]; omega)
  have hkeep : ∀ a : Nat, a < s.heap.size → U.heap[a]? = s.heap[a]? := by
    intro a ha
    have hsa : s.heap[a]? = some s.heap[a] := Array.getElem?_eq_getElem ha
    obtain ⟨c', e1, e2, e3, e4⟩ := hsame.2.2.2.2.2 a _ hsa
    have e5 : c'.slots = s.heap[a].slots := Array.ext_getElem? fun i => e4 i (by simp)
    rw [e5] at e2
    rw [hsa]
    have : U.heap[a]? = some c' := e1
    rw [this, e2]
  refine ⟨U, hst, _, hrun, hend, .inr x, (S.1, none, false), hQ, ⟨_, ce, rfl, hce, by rw [hcell.vm]; rfl, ?_⟩, hWU, ⟨[], hsame.mono hcl hsl, (fun q hq => by cases hq), fun _ => ⟨rfl, (hA.2.2.2 hclean).2⟩⟩, ?_, (fun z hz => by cases hz), ?_⟩
  · have : pmXs.getD x "" = q.2 := by
      match x, hq with
      | 0, hq => cases hq; rfl
      | 1, hq => cases hq; rfl
      | 2, hq => cases hq; rfl
      | 3, hq => cases hq; rfl
      | x + 4, hq => simp [pmXi] at hq
    rw [this]
    exact hcell.cls
  · intro a d hd
    have h0 := hI.2.2.2.2.2.2.2.2.2.2.2.2 a d (by rw [← (hA.2.2.2 hclean).2]; exact hd)
    exact h0.kept (hkeep a h0.lt)
  · exact ⟨hsame.2.1, fun q hq _ => hkeep q hq⟩
theorem go_throw {x y sx : Nat} {tx : String} {q : Nat × String} (hd0 : decode F.1.2.1 pc = .ok (.new y, 3)) (hd1 : decode F.1.2.1 (pc + 3) = .ok (.dup, 1)) (hd2 : decode F.1.2.1 (pc + 4) = .ok (.ldc sx, 2)) (hd5 : decode F.1.2.1 (pc + 6) = .ok (.invokespecial q.1, 3)) (hd6 : decode F.1.2.1 (pc + 9) = .ok (.athrow, 1)) (hq : pmXi[x]? = some q) (hl : Cond.classLink "PortableFiles" y q.2 ∈ pmW) (hs : (sx, tx) ∈ pmStr) (hQ : Q (.inr x) (S.1, none, false)) (hclean : S.2.2 = false)
    (hown : F.1.1.cls = "PortableFiles" := by rfl) (hh : F.1.2.2.2.2.1 = [] := by rfl) (hcl : k + 1 ≤ F.2.2.1 := by exact Nat.le_of_ble_eq_true rfl) (hsl : n + 6 ≤ F.2.2.2 := by exact Nat.le_of_ble_eq_true rfl) (hfr : 6 ≤ F.1.2.2.2.2.2.2.2.1 := by exact Nat.le_of_ble_eq_true rfl) (hlo : 82 ≤ F.1.2.2.2.2.2.2.2.2 := by exact Nat.le_of_ble_eq_true rfl) : Go E F pc L [] S k n Q := by
  intro p e R s m args below meth c H locs ls hI hA hL hn
  have hts := hI.2.2.2.2.2.2.2.2.1
  have hR := hI.2.2.2.2.2.2.2.2.2.2.1
  have hcls := hI.2.2.2.2.2.2.1
  rw [hown] at hcls
  obtain ⟨-, -, -, hins, hini, -⟩ := pmXi_ok q (List.mem_of_getElem? hq)
  obtain ⟨t0, hZ⟩ := hI.2.2.2.2.2.2.2.2.2.1.2.2.2.2.2.2.2.2.1 _ hs
  have hlocs := (hA.2.2.2 hclean).1
  subst hlocs
  refine W.newc hI.1 hI.2.1 hcls (hts _ hl) (hts _ hins) (hts _ hini) rfl hd0 (by rw [hR.2.2.1]; exact hcl) (by rw [hR.2.2.2]; exact hsl) fun cC kC h1 h2 h3 h4 => ?_
  refine W.eq (g2 := F0 m (pc + 3) ls [.ref H.size]) rfl ?_
  refine lv_dup hI.1 hI.2.1 hd1 rfl ?_
  refine va_ldcS hI.1 hI.2.1 hcls hZ hd2 ?_
  exact pm_ctor hq hown hd5 hd6 hh hcl hsl hfr hlo hQ hI hA hL hn hclean h1 h2 rfl t0
theorem go_throwW {x y sx : Nat} {tx : String} {q : Nat × String} (hd0 : decode F.1.2.1 pc = .ok (.new y, 3)) (hd1 : decode F.1.2.1 (pc + 3) = .ok (.dup, 1)) (hd2 : decode F.1.2.1 (pc + 4) = .ok (.ldc_w sx, 3)) (hd5 : decode F.1.2.1 (pc + 7) = .ok (.invokespecial q.1, 3)) (hd6 : decode F.1.2.1 (pc + 10) = .ok (.athrow, 1)) (hq : pmXi[x]? = some q) (hl : Cond.classLink "PortableFiles" y q.2 ∈ pmW) (hs : (sx, tx) ∈ pmStr) (hQ : Q (.inr x) (S.1, none, false)) (hclean : S.2.2 = false)
    (hown : F.1.1.cls = "PortableFiles" := by rfl) (hh : F.1.2.2.2.2.1 = [] := by rfl) (hcl : k + 1 ≤ F.2.2.1 := by exact Nat.le_of_ble_eq_true rfl) (hsl : n + 6 ≤ F.2.2.2 := by exact Nat.le_of_ble_eq_true rfl) (hfr : 6 ≤ F.1.2.2.2.2.2.2.2.1 := by exact Nat.le_of_ble_eq_true rfl) (hlo : 82 ≤ F.1.2.2.2.2.2.2.2.2 := by exact Nat.le_of_ble_eq_true rfl) : Go E F pc L [] S k n Q := by
  intro p e R s m args below meth c H locs ls hI hA hL hn
  have hts := hI.2.2.2.2.2.2.2.2.1
  have hR := hI.2.2.2.2.2.2.2.2.2.2.1
  have hcls := hI.2.2.2.2.2.2.1
  rw [hown] at hcls
  obtain ⟨-, -, -, hins, hini, -⟩ := pmXi_ok q (List.mem_of_getElem? hq)
  obtain ⟨t0, hZ⟩ := hI.2.2.2.2.2.2.2.2.2.1.2.2.2.2.2.2.2.2.1 _ hs
  have hlocs := (hA.2.2.2 hclean).1
  subst hlocs
  refine W.newc hI.1 hI.2.1 hcls (hts _ hl) (hts _ hins) (hts _ hini) rfl hd0 (by rw [hR.2.2.1]; exact hcl) (by rw [hR.2.2.2]; exact hsl) fun cC kC h1 h2 h3 h4 => ?_
  refine W.eq (g2 := F0 m (pc + 3) ls [.ref H.size]) rfl ?_
  refine lv_dup hI.1 hI.2.1 hd1 rfl ?_
  refine pm_ldcw hI.1 hI.2.1 hcls hZ hd2 ?_
  exact pm_ctor hq hown hd5 hd6 hh hcl hsl hfr hlo hQ hI hA hL hn hclean h1 h2 rfl t0
end GOX

