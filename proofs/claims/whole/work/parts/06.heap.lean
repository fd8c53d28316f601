/-! ===== rules of the instructions that read and write the heap ===== -/
theorem pmAt.put {E : pmEv} {F : pmFr} {s : State} {S : pmS} {H H1 : Heap} {locs : List Loc} {a i : Nat} {c : pmC} (hA : pmAt E F s S H locs) (ha : E.2.1 ≤ a) (hc : pmCe E s H1 a c) (hz : H1.size = H.size) (ho : ∀ q : Nat, q ≠ a → H1[q]? = H[q]?) : pmAt E F s (pmU S.1 a c, S.2.1, true) H1 (locs ++ [⟨a, i⟩]) :=
  ⟨hA.1.put hc ho, fun n hn => by rw [hz]; exact hA.2.1 n hn, hA.2.2.1.put hz ho ha, fun h => by cases h⟩
section GOH
variable {E : pmEv} {F : pmFr} {pc : Nat} {L : pmL} {st : List Value} {S : pmS} {k n : Nat} {Q : pmA → pmS → Prop}
theorem go_getf {x ci j a : Nat} {fs : List Value} {v : Value} {pc' : Nat} (hd : decode F.1.2.1 pc = .ok (.getfield x, 3)) (hf : pmFd F.1.1.cls x ci j) (hh : S.1 a = some (pmO ci fs)) (hv : fs[j]? = some v) (h : Go E F pc' L (v :: st) S k n Q) (hp : pc + 3 = pc' := by rfl) : Go E F pc L (.ref a :: st) S k n Q := by
  intro p e R s m args below meth c H locs ls hI hA hL hn
  subst hp
  obtain ⟨-, r, h1, hlen, cell, q1, q2, q3, q4⟩ := hA.1 a _ hh
  obtain ⟨r', hr', hk, hl⟩ := hf
  cases h1.symm.trans hr'
  have hts := hI.2.2.2.2.2.2.2.2.1
  obtain ⟨hS, hfc, kC, hkC, hkind⟩ := (hI.2.2.2.2.2.2.2.2.2.1.1).1 ci _ h1
  obtain ⟨cf, kf, fi, f, hi, hsl⟩ := hS j hk
  refine W.getf hI.1 hI.2.1 hI.2.2.2.2.2.2.1 (hts _ hl) hi (u_facts hfc hkC (u_lays hts (pmCk_of h1).1 hk) hi).1 q1 (by rw [q3]; exact fun h => by cases h) (v := v) ?_ rfl rfl hd (h p e R s m args below meth c H locs ls hI hA hL hn)
  rw [hsl, q4 j hk]
  simp [vp_V, hv]
theorem go_putf {x ci j a : Nat} {fs fs' : List Value} {v : Value} {ty : FieldType} {pc' : Nat} (hd : decode F.1.2.1 pc = .ok (.putfield x, 3)) (hf : pmFd F.1.1.cls x ci j) (hfin : ∀ r : vw_C, pmCl[ci]? = some r → (r.2.1 j).2.2.2 = false ∧ parseFieldDescriptor (r.2.1 j).2.2.1 = some ty) (hh : S.1 a = some (pmO ci fs)) (hn1 : narrow ty v = v) (hfit : fits ty v = true) (h : Go E F pc' L st (pmU S.1 a (pmO ci fs'), S.2.1, true) k n Q) (hs : fs.set j v = fs' := by rfl) (hp : pc + 3 = pc' := by rfl) : Go E F pc L (v :: .ref a :: st) S k n Q := by
  intro p e R s m args below meth c H locs ls hI hA hL hn
  subst hp
  subst hs
  obtain ⟨h0, r, h1, hlen, cell, q1, q2, q3, q4⟩ := hA.1 a _ hh
  obtain ⟨r', hr', hk, hl⟩ := hf
  cases h1.symm.trans hr'
  have hts := hI.2.2.2.2.2.2.2.2.1
  obtain ⟨hfin, hty⟩ := hfin r h1
  obtain ⟨cin, ⟨ty0, hty0⟩, hnm, -⟩ := pmCk_of h1
  have hK := hI.2.2.2.2.2.2.2.2.2.1.1
  have hap := va_apart (own := F.1.1.cls) (ci := ci) (tys := pmTs E) hts cin ty0 hty0 hnm hK h1
  obtain ⟨hS, hfc, kC, hkC, hkind⟩ := hK.1 ci _ h1
  obtain ⟨cf, kf, fi, f, hi, hsl⟩ := hS j hk
  have hlay := hts _ (cin _ (u_in_lay hk))
  unfold u_lay at hlay
  rw [if_neg (by rw [hfin]; decide)] at hlay
  have hst := (u_facts hfc hkC (u_lays hts cin hk) hi).1
  have h6 := u_store hfc hkC hkind hlay hi hty hn1 hfit
  have hl2 : j < fs.length := by rw [hlen]; exact hk
  refine W.putK hI.1 hI.2.1 (f := f) ⟨hI.2.2.2.2.2.2.1, hts _ hl, ⟨_, _, _, hi⟩, hst⟩ (by rw [q2]; exact h6) q1 q3 (by rw [hsl]; exact k2_hasslot (q4 j hk)) rfl rfl hd fun H' e1 e2 e3 => ?_
  rw [hsl] at e1 ⊢
  refine h p e R s m args below meth c H' _ ls hI (hA.put h0 ⟨h0, r, h1, by rw [List.length_set]; exact hlen, ?_⟩ e2 e3) hL hn
  exact t_OB.to (V := updV (vp_V fs) j v) ⟨_, e1, q2, q3, t_set q4 hap hk v⟩ (fun i _ => vp_updV_set hl2 v i)
theorem go_putF {x ci j a : Nat} {fs fs' : List Value} {v : Value} {ty : FieldType} {pc' : Nat} (hd : decode F.1.2.1 pc = .ok (.putfield x, 3)) (hf : pmFd F.1.1.cls x ci j) (hfin : ∀ r : vw_C, pmCl[ci]? = some r → (r.2.1 j).2.2.2 = true ∧ (r.2.1 j).1 = F.1.1.cls ∧ parseFieldDescriptor (r.2.1 j).2.2.1 = some ty) (hin : F.1.1.name = "<init>") (hh : S.1 a = some (pmO ci fs)) (hn1 : narrow ty v = v) (hfit : fits ty v = true) (h : Go E F pc' L st (pmU S.1 a (pmO ci fs'), S.2.1, true) k n Q) (hs : fs.set j v = fs' := by rfl) (hp : pc + 3 = pc' := by rfl) : Go E F pc L (v :: .ref a :: st) S k n Q := by
  intro p e R s m args below meth c H locs ls hI hA hL hn
  subst hp
  subst hs
  obtain ⟨h0, r, h1, hlen, cell, q1, q2, q3, q4⟩ := hA.1 a _ hh
  obtain ⟨r', hr', hk, hl⟩ := hf
  cases h1.symm.trans hr'
  have hts := hI.2.2.2.2.2.2.2.2.1
  obtain ⟨hfin, hdecl, hty⟩ := hfin r h1
  obtain ⟨cin, ⟨ty0, hty0⟩, hnm, -⟩ := pmCk_of h1
  have hK := hI.2.2.2.2.2.2.2.2.2.1.1
  have hown := hI.2.2.2.2.2.2.1
  have hap := va_apart (own := F.1.1.cls) (ci := ci) (tys := pmTs E) hts cin ty0 hty0 hnm hK h1
  obtain ⟨hS, hfc, kC, hkC, hkind⟩ := hK.1 ci _ h1
  obtain ⟨cf, kf, fi, f, hi, hsl⟩ := hS j hk
  have hlay := hts _ (cin _ (u_in_lay hk))
  unfold u_lay at hlay
  rw [if_pos hfin] at hlay
  have hst := (u_facts hfc hkC (u_lays hts cin hk) hi).1
  have hcf : m.cls = cf := by
    obtain ⟨_, _, c', _, _, _, -, -, hf', -, -, -, hown2, -⟩ := Cond.laysFinal_spec hlay
    have e1 : c' = cf := by have := hi.symm.trans hf'; simp at this; exact this.1.symm
    rw [hdecl] at hown2
    rw [← e1]; exact Option.some.inj (hown.symm.trans hown2)
  have h6 := u_fits hfc hkC hkind (Or.inr hlay) hi hty hn1 hfit
  have hl2 : j < fs.length := by rw [hlen]; exact hk
  refine W.putFinK hI.1 hI.2.1 hown (hts _ hl) hi hst hcf (hI.2.2.2.2.2.2.2.1.trans hin) (by rw [q2]; exact h6) q1 q3 (by rw [hsl]; exact k2_hasslot (q4 j hk)) rfl rfl hd fun H' e1 e2 e3 => ?_
  rw [hsl] at e1 ⊢
  refine h p e R s m args below meth c H' _ ls hI (hA.put h0 ⟨h0, r, h1, by rw [List.length_set]; exact hlen, ?_⟩ e2 e3) hL hn
  exact t_OB.to (V := updV (vp_V fs) j v) ⟨_, e1, q2, q3, t_set q4 hap hk v⟩ (fun i _ => vp_updV_set hl2 v i)
theorem go_gets0 {x : Nat} {pc' : Nat} (hd : decode F.1.2.1 pc = .ok (.getstatic x, 3)) (hl : Cond.fieldLink F.1.1.cls x "PortableFiles$Bytes" "BEGINNING" "[I" ∈ pmW) (h : Go E F pc' L (.ref (E.2.2.2.2 0) :: st) S k n Q) (hp : pc + 3 = pc' := by rfl) : Go E F pc L st S k n Q := by
  intro p e R s m args below meth c H locs ls hI hA hL hn
  subst hp
  exact va_gets hI.1 hI.2.1 hI.2.2.2.2.2.2.2.2.2.1.2.2.1 hA.2.2.1 hI.2.2.2.2.2.2.1 (hI.2.2.2.2.2.2.2.2.1 _ hl) (fun _ q => q) hd (h p e R s m args below meth c H locs ls hI hA hL hn)
theorem go_gets1 {x : Nat} {pc' : Nat} (hd : decode F.1.2.1 pc = .ok (.getstatic x, 3)) (hl : Cond.fieldLink F.1.1.cls x "PortableFiles$Bytes" "SUM_STEPS" "[I" ∈ pmW) (h : Go E F pc' L (.ref (E.2.2.2.2 1) :: st) S k n Q) (hp : pc + 3 = pc' := by rfl) : Go E F pc L st S k n Q := by
  intro p e R s m args below meth c H locs ls hI hA hL hn
  subst hp
  exact va_gets hI.1 hI.2.1 hI.2.2.2.2.2.2.2.2.2.1.2.2.2.1 hA.2.2.1 hI.2.2.2.2.2.2.1 (hI.2.2.2.2.2.2.2.2.1 _ hl) (fun _ q => q) hd (h p e R s m args below meth c H locs ls hI hA hL hn)
theorem pmTs_at {E : pmEv} {U : State} (h : pmKn E U) : ArrOfT U E.2.2.2.1.1 .int ∧ ArrOfT U E.2.2.2.1.2.1 .long ∧ ArrOfT U E.2.2.2.1.2.2 .boolean := ⟨(h.1.2 0 _ rfl).1, (h.1.2 1 _ rfl).1, (h.1.2 2 _ rfl).1⟩
theorem go_alen {a N : Nat} {f : Nat → Int32} {v : Int32} {pc' : Nat} (hd : decode F.1.2.1 pc = .ok (.arraylength, 1)) (hh : S.1 a = some (pmI N f)) (hv : Int32.ofNat N = v) (h : Go E F pc' L (.int v :: st) S k n Q) (hp : pc + 1 = pc' := by rfl) : Go E F pc L (.ref a :: st) S k n Q := by
  intro p e R s m args below meth c H locs ls hI hA hL hn
  subst hp
  obtain ⟨h0, h1⟩ := hA.1 a _ hh
  exact W.alen hI.1 hI.2.1 h1 ((pmTs_at hI.2.2.2.2.2.2.2.2.2.1).1 _ _) (by rw [arrV_size]; exact hv) rfl rfl hd (h p e R s m args below meth c H locs ls hI hA hL hn)
theorem go_alenT {a N : Nat} {f : Nat → Int32} {v : Int32} {pc' : Nat} (hd : decode F.1.2.1 pc = .ok (.arraylength, 1)) (hh : S.1 a = some (pmT N f)) (hv : Int32.ofNat N = v) (h : Go E F pc' L (.int v :: st) S k n Q) (hp : pc + 1 = pc' := by rfl) : Go E F pc L (.ref a :: st) S k n Q := by
  intro p e R s m args below meth c H locs ls hI hA hL hn
  subst hp
  obtain ⟨cell, h1, h2, h3, h4, h5, h6, h7⟩ := hA.1 a _ hh
  exact W.alen hI.1 hI.2.1 h1 h2 (h5.trans hv) rfl rfl hd (h p e R s m args below meth c H locs ls hI hA hL hn)
theorem go_iald {a N : Nat} {f : Nat → Int32} {i v : Int32} {pc' : Nat} (hd : decode F.1.2.1 pc = .ok (.iaload, 1)) (hh : S.1 a = some (pmI N f)) (hi : vp_in i N) (hv : f i.toNatClampNeg = v) (h : Go E F pc' L (.int v :: st) S k n Q) (hp : pc + 1 = pc' := by rfl) : Go E F pc L (.int i :: .ref a :: st) S k n Q := by
  intro p e R s m args below meth c H locs ls hI hA hL hn
  subst hp
  subst hv
  obtain ⟨h0, h1⟩ := hA.1 a _ hh
  have hlt : i.toNatClampNeg < N := Nat.not_le.mp fun q => hi (Or.inr q)
  exact W.iald hI.1 hI.2.1 h1 ((pmTs_at hI.2.2.2.2.2.2.2.2.2.1).1 _ _) (fun q => by cases q) (by rw [arrV_size]; exact hi) (arrV_read _ _ hlt) rfl rfl hd (h p e R s m args below meth c H locs ls hI hA hL hn)
theorem go_ialdT {a N : Nat} {f : Nat → Int32} {i v : Int32} {pc' : Nat} (hd : decode F.1.2.1 pc = .ok (.iaload, 1)) (hh : S.1 a = some (pmT N f)) (hi : vp_in i N) (hv : f i.toNatClampNeg = v) (h : Go E F pc' L (.int v :: st) S k n Q) (hp : pc + 1 = pc' := by rfl) : Go E F pc L (.int i :: .ref a :: st) S k n Q := by
  intro p e R s m args below meth c H locs ls hI hA hL hn
  subst hp
  subst hv
  obtain ⟨cell, h1, h2, h3, h4, h5, h6, h7⟩ := hA.1 a _ hh
  have hlt : i.toNatClampNeg < N := Nat.not_le.mp fun q => hi (Or.inr q)
  have hin' : ¬ (i < 0 ∨ cell.slots.size ≤ i.toNatClampNeg) := by
    intro q
    rcases q with q | q
    · exact hi (Or.inl q)
    · omega
  exact W.iald hI.1 hI.2.1 h1 h2 h3 hin' (h6 _ hlt) rfl rfl hd (h p e R s m args below meth c H locs ls hI hA hL hn)
theorem go_lald {a N : Nat} {f : Nat → Int64} {i : Int32} {v : Int64} {pc' : Nat} (hd : decode F.1.2.1 pc = .ok (.laload, 1)) (hh : S.1 a = some (pmJ N f)) (hi : vp_in i N) (hv : f i.toNatClampNeg = v) (h : Go E F pc' L (.long v :: st) S k n Q) (hp : pc + 1 = pc' := by rfl) : Go E F pc L (.int i :: .ref a :: st) S k n Q := by
  intro p e R s m args below meth c H locs ls hI hA hL hn
  subst hp
  subst hv
  obtain ⟨h0, h1⟩ := hA.1 a _ hh
  have hlt : i.toNatClampNeg < N := Nat.not_le.mp fun q => hi (Or.inr q)
  exact W.lald hI.1 hI.2.1 h1 ((pmTs_at hI.2.2.2.2.2.2.2.2.2.1).2.1 _ _) (fun q => by cases q) (by rw [arrV_size]; exact hi) (arrV_read _ _ hlt) rfl rfl hd (h p e R s m args below meth c H locs ls hI hA hL hn)
theorem go_zald {a N : Nat} {f : Nat → Int32} {i v : Int32} {pc' : Nat} (hd : decode F.1.2.1 pc = .ok (.baload, 1)) (hh : S.1 a = some (pmB N f)) (hi : vp_in i N) (hv : f i.toNatClampNeg = v) (h : Go E F pc' L (.int v :: st) S k n Q) (hp : pc + 1 = pc' := by rfl) : Go E F pc L (.int i :: .ref a :: st) S k n Q := by
  intro p e R s m args below meth c H locs ls hI hA hL hn
  subst hp
  subst hv
  obtain ⟨h0, h1⟩ := hA.1 a _ hh
  have hlt : i.toNatClampNeg < N := Nat.not_le.mp fun q => hi (Or.inr q)
  exact W.zald hI.1 hI.2.1 h1 ((pmTs_at hI.2.2.2.2.2.2.2.2.2.1).2.2 _ _) (fun q => by cases q) (by rw [arrV_size]; exact hi) (arrV_read _ _ hlt) rfl rfl hd (h p e R s m args below meth c H locs ls hI hA hL hn)
theorem pm_updI (f : Nat → Int32) (j : Nat) (x : Int32) : updV (fun j => Value.int (f j)) j (.int x) = fun i => .int (upd f j x i) := by
  funext q
  by_cases hq : q = j
  · subst hq; simp [updV, upd]
  · simp [updV, upd, hq]
theorem pm_updJ (f : Nat → Int64) (j : Nat) (x : Int64) : updV (fun j => Value.long (f j)) j (.long x) = fun i => .long (vp_updL f j x i) := by
  funext q
  by_cases hq : q = j
  · subst hq; simp [updV, vp_updL]
  · simp [updV, vp_updL, hq]
theorem go_iast {a N : Nat} {f : Nat → Int32} {i x : Int32} {j : Nat} {pc' : Nat} (hd : decode F.1.2.1 pc = .ok (.iastore, 1)) (hh : S.1 a = some (pmI N f)) (hi : vp_in i N) (hj : i.toNatClampNeg = j) (h : Go E F pc' L st (pmU S.1 a (pmI N (upd f j x)), S.2.1, true) k n Q) (hp : pc + 1 = pc' := by rfl) : Go E F pc L (.int x :: .int i :: .ref a :: st) S k n Q := by
  intro p e R s m args below meth c H locs ls hI hA hL hn
  subst hp
  subst hj
  obtain ⟨h0, h1⟩ := hA.1 a _ hh
  refine W.iast hI.1 hI.2.1 h1 ((pmTs_at hI.2.2.2.2.2.2.2.2.2.1).1 _ _) (fun q => by cases q) (by rw [arrV_size]; exact hi) rfl rfl hd fun H1 e1 e2 e3 => ?_
  exact h p e R s m args below meth c H1 _ ls hI (hA.put h0 ⟨h0, by rw [e1, arrV_store, pm_updI]⟩ e2 e3) hL hn
theorem go_last {a N : Nat} {f : Nat → Int64} {i : Int32} {x : Int64} {j : Nat} {pc' : Nat} (hd : decode F.1.2.1 pc = .ok (.lastore, 1)) (hh : S.1 a = some (pmJ N f)) (hi : vp_in i N) (hj : i.toNatClampNeg = j) (h : Go E F pc' L st (pmU S.1 a (pmJ N (vp_updL f j x)), S.2.1, true) k n Q) (hp : pc + 1 = pc' := by rfl) : Go E F pc L (.long x :: .int i :: .ref a :: st) S k n Q := by
  intro p e R s m args below meth c H locs ls hI hA hL hn
  subst hp
  subst hj
  obtain ⟨h0, h1⟩ := hA.1 a _ hh
  refine W.last hI.1 hI.2.1 h1 ((pmTs_at hI.2.2.2.2.2.2.2.2.2.1).2.1 _ _) (fun q => by cases q) (by rw [arrV_size]; exact hi) rfl rfl hd fun H1 e1 e2 e3 => ?_
  exact h p e R s m args below meth c H1 _ ls hI (hA.put h0 ⟨h0, by rw [e1, arrV_store, pm_updJ]⟩ e2 e3) hL hn
theorem go_zast {a N : Nat} {f : Nat → Int32} {i x : Int32} {j : Nat} {pc' : Nat} (hd : decode F.1.2.1 pc = .ok (.bastore, 1)) (hh : S.1 a = some (pmB N f)) (hi : vp_in i N) (hj : i.toNatClampNeg = j) (hx : x = 0 ∨ x = 1) (h : Go E F pc' L st (pmU S.1 a (pmB N (upd f j x)), S.2.1, true) k n Q) (hp : pc + 1 = pc' := by rfl) : Go E F pc L (.int x :: .int i :: .ref a :: st) S k n Q := by
  intro p e R s m args below meth c H locs ls hI hA hL hn
  subst hp
  subst hj
  obtain ⟨h0, h1⟩ := hA.1 a _ hh
  have hx' : narrow .boolean (.int x) = .int x := by rcases hx with rfl | rfl <;> rfl
  refine W.zast hI.1 hI.2.1 h1 ((pmTs_at hI.2.2.2.2.2.2.2.2.2.1).2.2 _ _) (fun q => by cases q) (by rw [arrV_size]; exact hi) rfl rfl hd fun H1 e1 e2 e3 => ?_
  exact h p e R s m args below meth c H1 _ ls hI (hA.put h0 ⟨h0, by rw [e1, hx', arrV_store, pm_updI]⟩ e2 e3) hL hn
/-- a new object: its address is the heap's size -/
theorem go_new {x ci z N : Nat} {C : String} {T : u_T} {fs : List Value} {pc' : Nat} (hd : decode F.1.2.1 pc = .ok (.new x, 3)) (hc : pmCl[ci]? = some (C, T, N)) (hl : Cond.classLink F.1.1.cls x C ∈ pmW) (hz : S.2.1 = some z) (hfl : fs.length = N) (ty : Nat → FieldType) (hty : ∀ k, k < N → parseFieldDescriptor (T k).2.2.1 = some (ty k)) (hfs : ∀ j, j < N → defaultValue (ty j) = vp_V fs j) (hcl : k + 1 ≤ F.2.2.1) (hsl : n + N ≤ F.2.2.2)
    (h : Go E F pc' L (.ref z :: st) (pmU S.1 z (pmO ci fs), some (z + 1), true) (k + 1) (n + N) Q) (hp : pc + 3 = pc' := by rfl) : Go E F pc L st S k n Q := by
  intro p e R s m args below meth c H locs ls hI hA hL hn
  subst hp
  have hzH := hA.2.1 z hz
  subst hzH
  have hts := hI.2.2.2.2.2.2.2.2.1
  have hKn := (hI.2.2.2.2.2.2.2.2.2.1.1).1 ci _ hc
  have hb0 := hI.2.2.2.2.2.2.2.2.2.1.2.1
  obtain ⟨cin, -, -, hinst, hini⟩ := pmCk_of hc
  have hS := hA.2.2.1
  refine W.newcK hI.1 hI.2.1 hI.2.2.2.2.2.2.1 (hts _ hl) (hts _ hinst) (hts _ hini) rfl hd (by rw [hI.2.2.2.2.2.2.2.2.2.2.1.2.2.1]; exact hcl) (by rw [hI.2.2.2.2.2.2.2.2.2.2.1.2.2.2]; exact hsl) hKn.2.1 rfl fun H1 kC hkC e1 z1 o1 => ?_
  have hbH : E.2.1 ≤ H.size := Nat.le_trans hb0 hS.1
  refine h p e R s m args below meth c H1 _ ls hI ⟨hA.1.new ⟨hbH, _, hc, hfl, (u_born ty hts cin hKn hkC e1 hty).to hfs⟩ o1, fun q hq => by cases hq; exact z1, ⟨Nat.le_trans hS.1 (by omega), fun q h1 h2 => (o1 q (Nat.lt_of_lt_of_le h1 hS.1)).trans (hS.2.1 q h1 h2), hS.2.2⟩, fun q => by cases q⟩ hL hn
theorem pm_newa {c0 : pmC} {z : Nat} {i : Int32} {N : Nat} {aty : ArrayType} {ty : FieldType} {pc' : Nat} (hd : decode F.1.2.1 pc = .ok (.newarray aty, 2)) (hty : newarray.typeOf aty = ty) (hw : Cond.arrayClass ty ∈ pmW) (hz : S.2.1 = some z) (hi : ¬ i < 0) (hN : i.toNatClampNeg = N) (hby : N * componentBytes ty ≤ 536870912) (hcl : k + 1 ≤ F.2.2.1) (hsl : n + N ≤ F.2.2.2)
    (hce : ∀ (s : State) (H1 : Heap) (cA : ClassId), pmKn E s → E.2.1 ≤ z → s.vm.findClass ("[" ++ ty.toString) = some cA → H1[z]? = some (arrV cA N (fun _ => defaultValue ty)) → pmCe E s H1 z c0)
    (h : Go E F pc' L (.ref z :: st) (pmU S.1 z c0, some (z + 1), true) (k + 1) (n + N) Q) (hp : pc + 2 = pc' := by rfl) : Go E F pc L (.int i :: st) S k n Q := by
  intro p e R s m args below meth c H locs ls hI hA hL hn
  subst hp
  subst hty
  have hzH := hA.2.1 z hz
  subst hzH
  have hts := hI.2.2.2.2.2.2.2.2.1
  have hb0 := hI.2.2.2.2.2.2.2.2.2.1.2.1
  have hS := hA.2.2.1
  have hbH : E.2.1 ≤ H.size := Nat.le_trans hb0 hS.1
  refine va_newaK hI.1 hI.2.1 (hts _ hw) rfl hd rfl hi hN hby (by rw [hI.2.2.2.2.2.2.2.2.2.2.1.2.2.1]; exact hcl) (by rw [hI.2.2.2.2.2.2.2.2.2.2.1.2.2.2]; exact hsl) rfl fun H1 cA e1 z1 o1 hAr hNm => ?_
  exact h p e R s m args below meth c H1 _ ls hI ⟨hA.1.new (hce s H1 cA hI.2.2.2.2.2.2.2.2.2.1 hbH hNm e1) o1, fun q hq => by cases hq; exact z1, ⟨Nat.le_trans hS.1 (by omega), fun q h1 h2 => (o1 q (Nat.lt_of_lt_of_le h1 hS.1)).trans (hS.2.1 q h1 h2), hS.2.2⟩, fun q => by cases q⟩ hL hn
theorem go_newI {z : Nat} {i : Int32} {N : Nat} {pc' : Nat} (hd : decode F.1.2.1 pc = .ok (.newarray .int, 2)) (hz : S.2.1 = some z) (hi : ¬ i < 0) (hN : i.toNatClampNeg = N) (hby : N ≤ 4096) (hcl : k + 1 ≤ F.2.2.1) (hsl : n + N ≤ F.2.2.2)
    (h : Go E F pc' L (.ref z :: st) (pmU S.1 z (pmI N (fun _ => 0)), some (z + 1), true) (k + 1) (n + N) Q) (hp : pc + 2 = pc' := by rfl) : Go E F pc L (.int i :: st) S k n Q :=
  pm_newa hd rfl qw_I hz hi hN (by simp [componentBytes, newarray.typeOf]; omega) hcl hsl (fun s H1 cA hK hb hc e1 => by
    have h2 : s.vm.findClass ("[" ++ FieldType.int.toString) = some E.2.2.2.1.1 := (hK.1.2 0 _ rfl).2
    cases hc.symm.trans h2
    exact ⟨hb, e1⟩) h hp
theorem go_newJ {z : Nat} {i : Int32} {N : Nat} {pc' : Nat} (hd : decode F.1.2.1 pc = .ok (.newarray .long, 2)) (hz : S.2.1 = some z) (hi : ¬ i < 0) (hN : i.toNatClampNeg = N) (hby : N ≤ 4096) (hcl : k + 1 ≤ F.2.2.1) (hsl : n + N ≤ F.2.2.2)
    (h : Go E F pc' L (.ref z :: st) (pmU S.1 z (pmJ N (fun _ => 0)), some (z + 1), true) (k + 1) (n + N) Q) (hp : pc + 2 = pc' := by rfl) : Go E F pc L (.int i :: st) S k n Q :=
  pm_newa hd rfl qw_J hz hi hN (by simp [componentBytes, newarray.typeOf]; omega) hcl hsl (fun s H1 cA hK hb hc e1 => by
    have h2 : s.vm.findClass ("[" ++ FieldType.long.toString) = some E.2.2.2.1.2.1 := (hK.1.2 1 _ rfl).2
    cases hc.symm.trans h2
    exact ⟨hb, e1⟩) h hp
theorem go_newZ {z : Nat} {i : Int32} {N : Nat} {pc' : Nat} (hd : decode F.1.2.1 pc = .ok (.newarray .boolean, 2)) (hz : S.2.1 = some z) (hi : ¬ i < 0) (hN : i.toNatClampNeg = N) (hby : N ≤ 4096) (hcl : k + 1 ≤ F.2.2.1) (hsl : n + N ≤ F.2.2.2)
    (h : Go E F pc' L (.ref z :: st) (pmU S.1 z (pmB N (fun _ => 0)), some (z + 1), true) (k + 1) (n + N) Q) (hp : pc + 2 = pc' := by rfl) : Go E F pc L (.int i :: st) S k n Q :=
  pm_newa hd rfl qw_Z hz hi hN (by simp [componentBytes, newarray.typeOf]; omega) hcl hsl (fun s H1 cA hK hb hc e1 => by
    have h2 : s.vm.findClass ("[" ++ FieldType.boolean.toString) = some E.2.2.2.1.2.2 := (hK.1.2 2 _ rfl).2
    cases hc.symm.trans h2
    exact ⟨hb, e1⟩) h hp
theorem go_obj {x a : Nat} {pc' : Nat} (hd : decode F.1.2.1 pc = .ok (.invokespecial x, 3)) (hl : Cond.methodLink F.1.1.cls x objectInit ∈ pmW) (hfr : 1 ≤ F.1.2.2.2.2.2.2.2.1) (hlo : (st.map fun v => v.category).sum + 12 ≤ F.1.2.2.2.2.2.2.2.2) (h : Go E F pc' L st S k n Q) (hp : pc + 3 = pc' := by rfl) : Go E F pc L (.ref a :: st) S k n Q := by
  intro p e R s m args below meth c H locs ls hI hA hL hn
  subst hp
  have hts := hI.2.2.2.2.2.2.2.2.1
  refine W.objInit hI.1 hI.2.1 hI.2.2.2.2.2.2.1 (hts _ hl) (hts _ qw_oi) (hts _ qw_oc) rfl ?_ rfl hd (by rw [hI.2.2.2.2.2.2.2.2.2.2.1.1]; exact hfr) ?_ (h p e R s m args below meth c H locs ls hI hA hL hn)
  · rw [hI.2.2.1, ← hn]; exact hL.1
  · rw [hI.2.2.2.2.2.2.2.2.2.2.1.2.1]; simpa [JFrame.monitorRoom] using hlo
end GOH
