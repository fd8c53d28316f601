/-! ===== the law's own text, call by call (by wip/whole/gen_law2.py) ===== -/
theorem SA.cg {E : pmEv} {h h' : pmH} {x : Nat} (hS : SA E h x) (hq : ∀ q, q < x → h' q = h q) : SA E h' x := ⟨(hq _ hS.2.2.1).trans hS.1, (hq _ hS.2.2.2).trans hS.2.1, hS.2.2⟩
theorem RfA.cg {h h' : pmH} {m : Nat} {g : Nat → Int32} {A : Nat → Nat → Int32} (hR : RfA h m g A) (hq : ∀ q, m ≤ q → q < m + 17 → h' q = h q) : RfA h' m g A := ⟨(hq _ (by omega) (by omega)).trans hR.1, (hq _ (by omega) (by omega)).trans hR.2.1, (hq _ (by omega) (by omega)).trans hR.2.2.1, (hq _ (by omega) (by omega)).trans hR.2.2.2.1, (hq _ (by omega) (by omega)).trans hR.2.2.2.2.1, (hq _ (by omega) (by omega)).trans hR.2.2.2.2.2.1, (hq _ (by omega) (by omega)).trans hR.2.2.2.2.2.2.1, (hq _ (by omega) (by omega)).trans hR.2.2.2.2.2.2.2.1, (hq _ (by omega) (by omega)).trans hR.2.2.2.2.2.2.2.2.1, (hq _ (by omega) (by omega)).trans hR.2.2.2.2.2.2.2.2.2.1, (hq _ (by omega) (by omega)).trans hR.2.2.2.2.2.2.2.2.2.2.1, (hq _ (by omega) (by omega)).trans hR.2.2.2.2.2.2.2.2.2.2.2.1, (hq _ (by omega) (by omega)).trans hR.2.2.2.2.2.2.2.2.2.2.2.2.1, (hq _ (by omega) (by omega)).trans hR.2.2.2.2.2.2.2.2.2.2.2.2.2.1, (hq _ (by omega) (by omega)).trans hR.2.2.2.2.2.2.2.2.2.2.2.2.2.2.1, (hq _ (by omega) (by omega)).trans hR.2.2.2.2.2.2.2.2.2.2.2.2.2.2.2.1, (hq _ (by omega) (by omega)).trans hR.2.2.2.2.2.2.2.2.2.2.2.2.2.2.2.2⟩
def LI (E : pmEv) (h : pmH) (b x L : Nat) (xs : Nat → Int32) (α : aPF) (g : Nat → Int32) (A : Nat → Nat → Int32) : Prop := PFA h x α ∧ RfA h (x + 31) g A ∧ RR g A α ∧ IvA α ∧ SA E h x ∧ h b = some (pmT L xs) ∧ b < x ∧ ∃ f, h (x + 48) = some (pmJ 1 f)
section PRL
variable {E : pmEv} {F : pmFr} {pc : Nat} {L : pmL} {st : List Value} {S : pmS} {k n : Nat} {Q : pmA → pmS → Prop}
theorem go_zn {hh : pmH} {zz : Option Nat} {dd : Bool} (h : Go E F pc L st (hh, none, dd) k n Q) : Go E F pc L st (hh, zz, dd) k n Q := by
  intro p e R s m args below meth c H locs ls hI hA hL hn
  exact h p e R s m args below meth c H locs ls hI ⟨hA.1, (fun n q => by cases q), hA.2.2⟩ hL hn
theorem go_wd {k' n' : Nat} (h : Go E F pc L st S k' n' Q) (hk : k ≤ k') (hn' : n ≤ n') : Go E F pc L st S k n Q := by
  intro p e R s m args below meth c H locs ls hI hA hL hn
  exact W.widen hk hn' (h p e R s m args below meth c H locs ls hI hA hL hn)
theorem go_lawS {xi x u : Nat} {M : pmMeth} {vs rest st0 : List Value} {cs : List Nat} {sp : pmA × aPF} {hh : pmH} {dd : Bool} {pc' : Nat} (hd : decode F.1.2.1 pc = .ok (.invokestatic xi, 3)) (hok : pmOk M) (hst : Cond.static M.1 ∈ pmW) (hl : Cond.methodLink F.1.1.cls xi M.1 ∈ pmW) (hC : Call E M vs hh none 4 24 (RetL x u hh cs sp)) (hcl : k + 4 ≤ F.2.2.1) (hsl : n + 24 ≤ F.2.2.2)
    (h : ∀ h' d f', PFA h' x sp.2 → h' u = some (pmJ 1 f') → (nI (rcN cs sp.1) = 0 → f' 0 = (rvI sp.1).toInt64) → (∀ q, q ≠ u → q < x ∨ x + 31 ≤ q → h' q = hh q) → Go E F pc' L (.int (nI (rcN cs sp.1)) :: rest) (h', none, d) (k + 4) (n + 24) Q)
    (hs0 : st0 = vs.reverse ++ rest := by rfl) (hnp : (parseMethodDescriptor M.1.desc).map (fun d => d.parameters.length) = some vs.length := by decide +kernel) (hfr : M.2.2.2.2.2.2.2.1 + 1 ≤ F.1.2.2.2.2.2.2.2.1 := by exact Nat.le_of_ble_eq_true rfl) (hlo : 8 + (M.2.2.1 + 11) + M.2.2.2.2.2.2.2.2 ≤ F.1.2.2.2.2.2.2.2.2 := by exact Nat.le_of_ble_eq_true rfl) (hW : (rest.map fun v => v.category).sum ≤ 8 := by exact Nat.le_of_ble_eq_true rfl) (hp : pc + 3 = pc' := by rfl) : Go E F pc L st0 (hh, none, dd) k n Q :=
  go_stat hd hok hst hl hC (fun v' S'' hq => by obtain ⟨h1, h2, ⟨f', h3, h4⟩, h5, h6⟩ := hq; cases h1; rw [h6]; exact h _ _ f' h2 h3 h4 h5) (fun x' S'' hq => by obtain ⟨h1, -⟩ := hq; cases h1) hs0 hnp hfr hlo hcl hsl hW hp
theorem go_lawS0 {xi x : Nat} {M : pmMeth} {vs rest st0 : List Value} {cs : List Nat} {sp : pmA × aPF} {hh : pmH} {dd : Bool} {pc' : Nat} (hd : decode F.1.2.1 pc = .ok (.invokestatic xi, 3)) (hok : pmOk M) (hst : Cond.static M.1 ∈ pmW) (hl : Cond.methodLink F.1.1.cls xi M.1 ∈ pmW) (hC : Call E M vs hh none 4 24 (RetL0 x hh cs sp)) (hcl : k + 4 ≤ F.2.2.1) (hsl : n + 24 ≤ F.2.2.2)
    (h : ∀ h' d, PFA h' x sp.2 → Sm hh h' x 31 → Go E F pc' L (.int (nI (rcN cs sp.1)) :: rest) (h', none, d) (k + 4) (n + 24) Q)
    (hs0 : st0 = vs.reverse ++ rest := by rfl) (hnp : (parseMethodDescriptor M.1.desc).map (fun d => d.parameters.length) = some vs.length := by decide +kernel) (hfr : M.2.2.2.2.2.2.2.1 + 1 ≤ F.1.2.2.2.2.2.2.2.1 := by exact Nat.le_of_ble_eq_true rfl) (hlo : 8 + (M.2.2.1 + 11) + M.2.2.2.2.2.2.2.2 ≤ F.1.2.2.2.2.2.2.2.2 := by exact Nat.le_of_ble_eq_true rfl) (hW : (rest.map fun v => v.category).sum ≤ 8 := by exact Nat.le_of_ble_eq_true rfl) (hp : pc + 3 = pc' := by rfl) : Go E F pc L st0 (hh, none, dd) k n Q :=
  go_stat hd hok hst hl hC (fun v' S'' hq => by obtain ⟨h1, h2, h5, h6⟩ := hq; cases h1; rw [h6]; exact h _ _ h2 h5) (fun x' S'' hq => by obtain ⟨h1, -⟩ := hq; cases h1) hs0 hnp hfr hlo hcl hsl hW hp
theorem go_refR {xi b ci : Nat} {fs : List Value} {r : vw_C} {M : pmMeth} {vs rest st0 : List Value} {cs : List Nat} {rr v : Option Value} {sp : pmA × aPF} {hh : pmH} {dd : Bool} {pc' : Nat} (hd : decode F.1.2.1 pc = .ok (.invokevirtual xi, 3)) (hok : pmOk M) (him : Cond.instanceMethod M.1 ∈ pmW) (hse : Cond.selects M.1.cls M.1 M.1 ∈ pmW) (hl : Cond.methodLink F.1.1.cls xi M.1 ∈ pmW) (hb : hh b = some (pmO ci fs)) (hC : Call E M (.ref b :: vs) hh none 0 0 (RetR b hh cs rr sp)) (hv : rvO rr sp.1 = v) (hcl : k ≤ F.2.2.1) (hsl : n ≤ F.2.2.2)
    (h : ∀ h' d g A, RfA h' b g A → RR g A sp.2 → g 0 = nI (rcN cs sp.1) → Sm hh h' b 17 → Go E F pc' L (v.toList ++ rest) (h', none, d) k n Q)
    (hr : pmCl[ci]? = some r := by rfl) (hrc : r.1 = M.1.cls := by rfl) (hs0 : st0 = vs.reverse ++ .ref b :: rest := by rfl) (hnp : (parseMethodDescriptor M.1.desc).map (fun d => d.parameters.length) = some vs.length := by decide +kernel) (hfr : M.2.2.2.2.2.2.2.1 + 1 ≤ F.1.2.2.2.2.2.2.2.1 := by exact Nat.le_of_ble_eq_true rfl) (hlo : 8 + (M.2.2.1 + 11) + M.2.2.2.2.2.2.2.2 ≤ F.1.2.2.2.2.2.2.2.2 := by exact Nat.le_of_ble_eq_true rfl) (hW : (rest.map fun v => v.category).sum ≤ 8 := by exact Nat.le_of_ble_eq_true rfl) (hp : pc + 3 = pc' := by rfl) : Go E F pc L st0 (hh, none, dd) k n Q :=
  go_virt hd hok him hse hl hb hC (fun v' S'' hq => by obtain ⟨h1, ⟨g, A, h2, h3, h4⟩, h5, h6⟩ := hq; rw [hv] at h1; cases h1; rw [h6]; exact h _ _ g A h2 h3 h4 h5) (fun x' S'' hq => by obtain ⟨h1, -⟩ := hq; cases h1) hr hrc hs0 hnp hfr hlo hcl hsl hW hp
theorem go_virtRd {xi b ci : Nat} {fs : List Value} {r : vw_C} {M : pmMeth} {vs rest st0 : List Value} {α : aPF} {T : Int32 × Nat × aRs} {hh : pmH} {dd : Bool} {pc' : Nat} (hd : decode F.1.2.1 pc = .ok (.invokevirtual xi, 3)) (hok : pmOk M) (him : Cond.instanceMethod M.1 ∈ pmW) (hse : Cond.selects M.1.cls M.1 M.1 ∈ pmW) (hl : Cond.methodLink F.1.1.cls xi M.1 ∈ pmW) (hb : hh b = some (pmO ci fs)) (hC : Call E M (.ref b :: vs) hh none 4 24 (fun o S => ∃ S', rdE T S' ∧ o = .inl (some (.int (rdV T))) ∧ PFA S.1 b (α.1, α.2.1, α.2.2.1, S') ∧ Sm hh S.1 b 31 ∧ S.2.1 = none)) (hcl : k + 4 ≤ F.2.2.1) (hsl : n + 24 ≤ F.2.2.2)
    (h : ∀ h' d S', rdE T S' → PFA h' b (α.1, α.2.1, α.2.2.1, S') → Sm hh h' b 31 → Go E F pc' L (.int (rdV T) :: rest) (h', none, d) (k + 4) (n + 24) Q)
    (hr : pmCl[ci]? = some r := by rfl) (hrc : r.1 = M.1.cls := by rfl) (hs0 : st0 = vs.reverse ++ .ref b :: rest := by rfl) (hnp : (parseMethodDescriptor M.1.desc).map (fun d => d.parameters.length) = some vs.length := by decide +kernel) (hfr : M.2.2.2.2.2.2.2.1 + 1 ≤ F.1.2.2.2.2.2.2.2.1 := by exact Nat.le_of_ble_eq_true rfl) (hlo : 8 + (M.2.2.1 + 11) + M.2.2.2.2.2.2.2.2 ≤ F.1.2.2.2.2.2.2.2.2 := by exact Nat.le_of_ble_eq_true rfl) (hW : (rest.map fun v => v.category).sum ≤ 8 := by exact Nat.le_of_ble_eq_true rfl) (hp : pc + 3 = pc' := by rfl) : Go E F pc L st0 (hh, none, dd) k n Q :=
  go_virt hd hok him hse hl hb hC (fun v' S'' hq => by obtain ⟨S1, h1, h2, h3, h4, h5⟩ := hq; cases h2; rw [h5]; exact h _ _ S1 h1 h3 h4) (fun x' S'' hq => by obtain ⟨S1, h1, h2, -⟩ := hq; cases h2) hr hrc hs0 hnp hfr hlo hcl hsl hW hp
end PRL
theorem rd_RR {g : Nat → Int32} {A : Nat → Nat → Int32} {α : aPF} {T : Int32 × Nat × aRs} {S' : aRs} (hE : rdE T S') (hb : RB g A α.1 α.2.1 α.2.2.1) (h28 : g 28 = T.1) (h14 : g 14 = bI (T.1 = 0)) (hw : T.1 = 0 → RP g A T.2.2.1.2 ∧ IvP T.2.2.1.2 ∧ T.2.2.1.1 = true ∧ g 27 = T.2.2.2.2 4) : RR g A (α.1, α.2.1, α.2.2.1, S') := by
  refine ⟨hb.1, hb.2.1, hb.2.2.1, h28.trans hE.1.symm, ?_, fun q => ?_⟩
  · rw [h14]
    by_cases e : T.1 = 0
    · rw [bI_t e, bI_t (by rw [(hE.2.2 e).1]; decide)]
    · rw [bI_f e, bI_f (fun q => q (hE.2.1 e).2)]
  · have e : T.1 = 0 := Decidable.byContradiction fun e => q (hE.2.1 e).2
    obtain ⟨h1, h2, h3, h4⟩ := hE.2.2 e
    refine ⟨?_, (hw e).2.2.2.trans h4.symm⟩
    show RP g A S'.1.2
    rw [h2]
    exact (hw e).1
theorem rd_Iv {g : Nat → Int32} {A : Nat → Nat → Int32} {α : aPF} {T : Int32 × Nat × aRs} {S' : aRs} (hv : IvA α) (hE : rdE T S') (hw : T.1 = 0 → RP g A T.2.2.1.2 ∧ IvP T.2.2.1.2 ∧ T.2.2.1.1 = true ∧ g 27 = T.2.2.2.2 4) : IvA (α.1, α.2.1, α.2.2.1, S') := by
  refine ⟨hv.1, hv.2.1, hv.2.2.1, fun q => ?_⟩
  have e : T.1 = 0 := Decidable.byContradiction fun e => q (hE.2.1 e).2
  obtain ⟨h1, h2, h3, h4⟩ := hE.2.2 e
  show IvP S'.1.2 ∧ S'.1.1 = true
  rw [h2]
  exact ⟨(hw e).2.1, (hw e).2.2.1⟩
theorem rv_head {α : aPF} {a1 a2 a3 a4 : Int32} : rvO none (hdF α a1 a2 a3 a4).1 = none := by
  rcases (sh_head (α := α) (a1 := a1) (a2 := a2) (a3 := a3) (a4 := a4)) with e | e
  all_goals (rw [e]; rfl)
theorem rv_colour {α : aPF} {a1 a2 a3 a4 : Int32} : rvO (some (.int 0)) (coF α a1 a2 a3 a4).1 = some (.int (rvI (coF α a1 a2 a3 a4).1)) := by
  rcases (sh_colour (α := α) (a1 := a1) (a2 := a2) (a3 := a3) (a4 := a4)) with ⟨w, e⟩ | e | e | e
  all_goals (rw [e]; rfl)
theorem rv_put {α : aPF} {a1 a2 a3 a4 : Int32} : rvO (some (.int 0)) (puF α a1 a2 a3 a4).1 = some (.int (rvI (puF α a1 a2 a3 a4).1)) := by
  rcases (sh_put (α := α) (a1 := a1) (a2 := a2) (a3 := a3) (a4 := a4)) with ⟨w, e⟩ | e | e | e
  all_goals (rw [e]; rfl)
theorem rv_tag {α : aPF} {a1 a2 : Int32} : rvO (some (.int 0)) (tgF α a1 a2).1 = some (.int (rvI (tgF α a1 a2).1)) := by
  rcases (sh_tag (α := α) (a1 := a1) (a2 := a2)) with ⟨w, e⟩ | e | e
  all_goals (rw [e]; rfl)
theorem rv_extra {α : aPF} {a1 : Int32} : rvO (some (.int 0)) (exF α a1).1 = some (.int (rvI (exF α a1).1)) := by
  rcases (sh_extra (α := α) (a1 := a1)) with ⟨w, e⟩ | e | e | e
  all_goals (rw [e]; rfl)
theorem rv_byteOf {α : aPF} {a1 a2 : Int32} : rvO (some (.int 0)) (boF α a1 a2).1 = some (.int (rvI (boF α a1 a2).1)) := by
  rcases (sh_byteOf (α := α) (a1 := a1) (a2 := a2)) with ⟨w, e⟩ | e | e | e | e
  all_goals (rw [e]; rfl)
theorem rv_reduce {α : aPF} : rvO (some (.int 0)) (reF α).1 = some (.int (rvI (reF α).1)) := by
  rcases (sh_reduce (α := α)) with ⟨w, e⟩ | e
  all_goals (rw [e]; rfl)
theorem rv_write {α : aPF} : rvO (some (.int 0)) (wrF α).1 = some (.int (rvI (wrF α).1)) := by
  rcases (sh_write (α := α)) with ⟨w, e⟩ | e
  all_goals (rw [e]; rfl)
theorem rv_byteAt {α : aPF} {a1 : Int32} : rvO (some (.int 0)) (baF α a1).1 = some (.int (rvI (baF α a1).1)) := by
  rcases (sh_byteAt (α := α) (a1 := a1)) with ⟨w, e⟩ | e
  all_goals (rw [e]; rfl)
theorem rv_feed {α : aPF} {a1 : Int32} : rvO (some (.int 0)) (feF α a1).1 = some (.int (rvI (feF α a1).1)) := by
  rcases (sh_feed (α := α) (a1 := a1)) with ⟨w, e⟩ | e | e
  all_goals (rw [e]; rfl)
theorem rv_pass {α : aPF} {a1 a2 : Int32} : rvO (some (.int 0)) (paF α a1 a2).1 = some (.int (rvI (paF α a1 a2).1)) := by
  rcases (sh_pass (α := α) (a1 := a1) (a2 := a2)) with ⟨w, e⟩ | e | e | e
  all_goals (rw [e]; rfl)
theorem rv_alter {α : aPF} {a1 a2 a3 : Int32} : rvO (some (.int 0)) (alF α a1 a2 a3).1 = some (.int (rvI (alF α a1 a2 a3).1)) := by
  rcases (sh_alter (α := α) (a1 := a1) (a2 := a2) (a3 := a3)) with ⟨w, e⟩ | e | e
  all_goals (rw [e]; rfl)
theorem rv_at {α : aPF} {a1 a2 a3 : Int32} : rvO (some (.int 0)) (atF α a1 a2 a3).1 = some (.int (rvI (atF α a1 a2 a3).1)) := by
  rcases (sh_at (α := α) (a1 := a1) (a2 := a2) (a3 := a3)) with ⟨w, e⟩ | e | e
  all_goals (rw [e]; rfl)
theorem rv_found {α : aPF} {a1 : Int32} : rvO (some (.int 0)) (foF α a1).1 = some (.int (rvI (foF α a1).1)) := by
  rcases (sh_found (α := α) (a1 := a1)) with ⟨w, e⟩ | e
  all_goals (rw [e]; rfl)
theorem rv_entry {α : aPF} {a1 a2 : Int32} : rvO (some (.int 0)) (eyF α a1 a2).1 = some (.int (rvI (eyF α a1 a2).1)) := by
  rcases (sh_entry (α := α) (a1 := a1) (a2 := a2)) with ⟨w, e⟩ | e | e | e
  all_goals (rw [e]; rfl)
theorem rv_unknown {α : aPF} {a1 a2 : Int32} : rvO (some (.int 0)) (unF α a1 a2).1 = some (.int (rvI (unF α a1 a2).1)) := by
  rcases (sh_unknown (α := α) (a1 := a1) (a2 := a2)) with ⟨w, e⟩ | e | e
  all_goals (rw [e]; rfl)
theorem rv_take {α : aPF} : rvO none (taF α).1 = none := by
  rcases (sh_take (α := α)) with e | e
  all_goals (rw [e]; rfl)
set_option maxHeartbeats 4000000 in
theorem l_law_head {E : pmEv} {hm h : pmH} {d : Bool} {k n b x L i : Nat} {xs : Nat → Int32} {α : aPF} {g : Nat → Int32} {A : Nat → Nat → Int32} {Q : pmA → pmS → Prop} (hI : LI E h b x L xs α g A) (hi : i + 5 ≤ L) (hL : L ≤ 2560) (hk : k + 4 ≤ 601024) (hn : n + 24 ≤ 7293034) (hK : ∀ h' d' α' g' A', LI E h' b x L xs α' g' A' → Go E (mLaw_law, hm, 601024, 7293034) 1289 [some (.ref b), some (.ref x), some (.ref (x + 31)), some (.ref (x + 48)), some (.int (nI i)), none, none] [] (h', none, d') (k + 4) (n + 24) Q) : Go E (mLaw_law, hm, 601024, 7293034) 132 [some (.ref b), some (.ref x), some (.ref (x + 31)), some (.ref (x + 48)), some (.int (nI i)), none, none] [] (h, none, d) k n Q := by
  obtain ⟨hA, hR, hr, hv, hS, hb, hbx, f0, hu⟩ := hI
  refine go_aload_n dLaw_law_132 rfl ?_
  refine go_aload_n dLaw_law_133 rfl ?_
  refine go_iload dLaw_law_134 rfl ?_
  refine go_iconst (v := 1) dLaw_law_136 (by decide) ?_
  refine go_iadd dLaw_law_137 ?_
  refine go_top (y := nI (i + 1)) (by rw [show (1 : Int32) = nI 1 from rfl, nI_add]) ?_
  refine go_ialdT dLaw_law_138 hb (by exact vp_in_nI (by omega) (by omega)) (congrArg _ (nI_clamp (by omega))) ?_
  refine go_aload_n dLaw_law_139 rfl ?_
  refine go_iload dLaw_law_140 rfl ?_
  refine go_iconst (v := 2) dLaw_law_142 (by decide) ?_
  refine go_iadd dLaw_law_143 ?_
  refine go_top (y := nI (i + 2)) (by rw [show (2 : Int32) = nI 2 from rfl, nI_add]) ?_
  refine go_ialdT dLaw_law_144 hb (by exact vp_in_nI (by omega) (by omega)) (congrArg _ (nI_clamp (by omega))) ?_
  refine go_aload_n dLaw_law_145 rfl ?_
  refine go_iload dLaw_law_146 rfl ?_
  refine go_iconst (v := 3) dLaw_law_148 (by decide) ?_
  refine go_iadd dLaw_law_149 ?_
  refine go_top (y := nI (i + 3)) (by rw [show (3 : Int32) = nI 3 from rfl, nI_add]) ?_
  refine go_ialdT dLaw_law_150 hb (by exact vp_in_nI (by omega) (by omega)) (congrArg _ (nI_clamp (by omega))) ?_
  refine go_aload_n dLaw_law_151 rfl ?_
  refine go_iload dLaw_law_152 rfl ?_
  refine go_iconst (v := 4) dLaw_law_154 (by decide) ?_
  refine go_iadd dLaw_law_155 ?_
  refine go_top (y := nI (i + 4)) (by rw [show (4 : Int32) = nI 4 from rfl, nI_add]) ?_
  refine go_ialdT dLaw_law_156 hb (by exact vp_in_nI (by omega) (by omega)) (congrArg _ (nI_clamp (by omega))) ?_
  refine go_lawS0 dLaw_law_157 ok_mLaw_head st_mLaw_head qm_Law_79 (h_head (α := α) (a1 := xs (i + 1)) (a2 := xs (i + 2)) (a3 := xs (i + 3)) (a4 := xs (i + 4)) hA hS) (show k + 4 ≤ 601024 from hk) (show n + 24 ≤ 7293034 from hn) (fun hx1 d1 hA1 hs1 => ?_) (hnp := np_mLaw_head)
  have hR1 : RfA hx1 (x + 31) g A := hR.cg (fun q h1 h2 => hs1 q (by omega))
  have hb1 : hx1 b = some (pmT L xs) := (hs1 b (by omega)).trans hb
  have hS1 : SA E hx1 x := hS.cg (fun q h1 => hs1 q (by omega))
  have hu1 : hx1 (x + 48) = some (pmJ 1 f0) := (hs1 _ (by omega)).trans hu
  refine go_istore dLaw_law_160 ?_
  refine go_aload_n dLaw_law_162 rfl ?_
  refine go_aload_n dLaw_law_163 rfl ?_
  refine go_iload dLaw_law_164 rfl ?_
  refine go_iconst (v := 1) dLaw_law_166 (by decide) ?_
  refine go_iadd dLaw_law_167 ?_
  refine go_top (y := nI (i + 1)) (by rw [show (1 : Int32) = nI 1 from rfl, nI_add]) ?_
  refine go_ialdT dLaw_law_168 hb1 (by exact vp_in_nI (by omega) (by omega)) (congrArg _ (nI_clamp (by omega))) ?_
  refine go_aload_n dLaw_law_169 rfl ?_
  refine go_iload dLaw_law_170 rfl ?_
  refine go_iconst (v := 2) dLaw_law_172 (by decide) ?_
  refine go_iadd dLaw_law_173 ?_
  refine go_top (y := nI (i + 2)) (by rw [show (2 : Int32) = nI 2 from rfl, nI_add]) ?_
  refine go_ialdT dLaw_law_174 hb1 (by exact vp_in_nI (by omega) (by omega)) (congrArg _ (nI_clamp (by omega))) ?_
  refine go_aload_n dLaw_law_175 rfl ?_
  refine go_iload dLaw_law_176 rfl ?_
  refine go_iconst (v := 3) dLaw_law_178 (by decide) ?_
  refine go_iadd dLaw_law_179 ?_
  refine go_top (y := nI (i + 3)) (by rw [show (3 : Int32) = nI 3 from rfl, nI_add]) ?_
  refine go_ialdT dLaw_law_180 hb1 (by exact vp_in_nI (by omega) (by omega)) (congrArg _ (nI_clamp (by omega))) ?_
  refine go_aload_n dLaw_law_181 rfl ?_
  refine go_iload dLaw_law_182 rfl ?_
  refine go_iconst (v := 4) dLaw_law_184 (by decide) ?_
  refine go_iadd dLaw_law_185 ?_
  refine go_top (y := nI (i + 4)) (by rw [show (4 : Int32) = nI 4 from rfl, nI_add]) ?_
  refine go_ialdT dLaw_law_186 hb1 (by exact vp_in_nI (by omega) (by omega)) (congrArg _ (nI_clamp (by omega))) ?_
  refine go_refR dLaw_law_187 ok_mRef_head im_mRef_head se_mRef_head qm_Law_84 hR1.1 (r_head hR1 hr hv) rv_head (show k + 4 ≤ 601024 from hk) (show n + 24 ≤ 7293034 from hn) (fun hx2 d2 g2 A2 hR2 hr2 h02 hs2 => ?_) (hnp := np_mRef_head)
  have hb2 : hx2 b = some (pmT L xs) := (hs2 b (by omega)).trans hb1
  have hu2 := (hs2 (x + 48) (by omega)).trans hu1
  refine go_aload_n dLaw_law_190 rfl ?_
  refine go_virtP dLaw_law_191 ok_mRef_thrown im_mRef_thrown se_mRef_thrown qm_Law_85 hR2.1 (r_thrown hR2) ?_ (hnp := np_mRef_thrown) (hcl := show k + 4 ≤ 601024 from hk) (hsl := show n + 24 ≤ 7293034 from hn)
  refine go_top h02 ?_
  refine go_iload dLaw_law_194 rfl ?_
  refine go_icmp_eq (tgt := 201) dLaw_law_196 (fun c1 => ?_) (fun c1 => ?_)
  · refine go_goto (tgt := 1289) dLaw_law_201 ?_
    refine go_fg 5 ?_
    exact hK hx2 _ _ g2 A2 ⟨hA1.sm hs2 (by omega), hR2, hr2, iv_hd hv, hS1.cg (fun q h1 => hs2 q (by omega)), hb2, hbx, _, hu2⟩
  · exact absurd rfl c1
set_option maxHeartbeats 4000000 in
theorem l_law_colour {E : pmEv} {hm h : pmH} {d : Bool} {k n b x L i : Nat} {xs : Nat → Int32} {α : aPF} {g : Nat → Int32} {A : Nat → Nat → Int32} {Q : pmA → pmS → Prop} (hI : LI E h b x L xs α g A) (hi : i + 5 ≤ L) (hL : L ≤ 2560) (hk : k + 4 ≤ 601024) (hn : n + 24 ≤ 7293034) (hK : ∀ h' d' α' g' A', LI E h' b x L xs α' g' A' → Go E (mLaw_law, hm, 601024, 7293034) 1289 [some (.ref b), some (.ref x), some (.ref (x + 31)), some (.ref (x + 48)), some (.int (nI i)), none, none] [] (h', none, d') (k + 4) (n + 24) Q) : Go E (mLaw_law, hm, 601024, 7293034) 204 [some (.ref b), some (.ref x), some (.ref (x + 31)), some (.ref (x + 48)), some (.int (nI i)), none, none] [] (h, none, d) k n Q := by
  obtain ⟨hA, hR, hr, hv, hS, hb, hbx, f0, hu⟩ := hI
  refine go_aload_n dLaw_law_204 rfl ?_
  refine go_aload_n dLaw_law_205 rfl ?_
  refine go_iload dLaw_law_206 rfl ?_
  refine go_iconst (v := 1) dLaw_law_208 (by decide) ?_
  refine go_iadd dLaw_law_209 ?_
  refine go_top (y := nI (i + 1)) (by rw [show (1 : Int32) = nI 1 from rfl, nI_add]) ?_
  refine go_ialdT dLaw_law_210 hb (by exact vp_in_nI (by omega) (by omega)) (congrArg _ (nI_clamp (by omega))) ?_
  refine go_aload_n dLaw_law_211 rfl ?_
  refine go_iload dLaw_law_212 rfl ?_
  refine go_iconst (v := 2) dLaw_law_214 (by decide) ?_
  refine go_iadd dLaw_law_215 ?_
  refine go_top (y := nI (i + 2)) (by rw [show (2 : Int32) = nI 2 from rfl, nI_add]) ?_
  refine go_ialdT dLaw_law_216 hb (by exact vp_in_nI (by omega) (by omega)) (congrArg _ (nI_clamp (by omega))) ?_
  refine go_aload_n dLaw_law_217 rfl ?_
  refine go_iload dLaw_law_218 rfl ?_
  refine go_iconst (v := 3) dLaw_law_220 (by decide) ?_
  refine go_iadd dLaw_law_221 ?_
  refine go_top (y := nI (i + 3)) (by rw [show (3 : Int32) = nI 3 from rfl, nI_add]) ?_
  refine go_ialdT dLaw_law_222 hb (by exact vp_in_nI (by omega) (by omega)) (congrArg _ (nI_clamp (by omega))) ?_
  refine go_aload_n dLaw_law_223 rfl ?_
  refine go_iload dLaw_law_224 rfl ?_
  refine go_iconst (v := 4) dLaw_law_226 (by decide) ?_
  refine go_iadd dLaw_law_227 ?_
  refine go_top (y := nI (i + 4)) (by rw [show (4 : Int32) = nI 4 from rfl, nI_add]) ?_
  refine go_ialdT dLaw_law_228 hb (by exact vp_in_nI (by omega) (by omega)) (congrArg _ (nI_clamp (by omega))) ?_
  refine go_aload_n dLaw_law_229 rfl ?_
  refine go_lawS dLaw_law_230 ok_mLaw_colour st_mLaw_colour qm_Law_88 (h_colour (α := α) (a1 := xs (i + 1)) (a2 := xs (i + 2)) (a3 := xs (i + 3)) (a4 := xs (i + 4)) hA hu (by omega) hS) (show k + 4 ≤ 601024 from hk) (show n + 24 ≤ 7293034 from hn) (fun hx1 d1 f1 hA1 hu1 hf1 hs1 => ?_) (hnp := np_mLaw_colour)
  have hR1 : RfA hx1 (x + 31) g A := hR.cg (fun q h1 h2 => hs1 q (by omega) (by omega))
  have hb1 : hx1 b = some (pmT L xs) := (hs1 b (by omega) (by omega)).trans hb
  have hS1 : SA E hx1 x := hS.cg (fun q h1 => hs1 q (by omega) (by omega))
  refine go_istore dLaw_law_233 ?_
  refine go_aload_n dLaw_law_235 rfl ?_
  refine go_aload_n dLaw_law_236 rfl ?_
  refine go_iload dLaw_law_237 rfl ?_
  refine go_iconst (v := 1) dLaw_law_239 (by decide) ?_
  refine go_iadd dLaw_law_240 ?_
  refine go_top (y := nI (i + 1)) (by rw [show (1 : Int32) = nI 1 from rfl, nI_add]) ?_
  refine go_ialdT dLaw_law_241 hb1 (by exact vp_in_nI (by omega) (by omega)) (congrArg _ (nI_clamp (by omega))) ?_
  refine go_aload_n dLaw_law_242 rfl ?_
  refine go_iload dLaw_law_243 rfl ?_
  refine go_iconst (v := 2) dLaw_law_245 (by decide) ?_
  refine go_iadd dLaw_law_246 ?_
  refine go_top (y := nI (i + 2)) (by rw [show (2 : Int32) = nI 2 from rfl, nI_add]) ?_
  refine go_ialdT dLaw_law_247 hb1 (by exact vp_in_nI (by omega) (by omega)) (congrArg _ (nI_clamp (by omega))) ?_
  refine go_aload_n dLaw_law_248 rfl ?_
  refine go_iload dLaw_law_249 rfl ?_
  refine go_iconst (v := 3) dLaw_law_251 (by decide) ?_
  refine go_iadd dLaw_law_252 ?_
  refine go_top (y := nI (i + 3)) (by rw [show (3 : Int32) = nI 3 from rfl, nI_add]) ?_
  refine go_ialdT dLaw_law_253 hb1 (by exact vp_in_nI (by omega) (by omega)) (congrArg _ (nI_clamp (by omega))) ?_
  refine go_aload_n dLaw_law_254 rfl ?_
  refine go_iload dLaw_law_255 rfl ?_
  refine go_iconst (v := 4) dLaw_law_257 (by decide) ?_
  refine go_iadd dLaw_law_258 ?_
  refine go_top (y := nI (i + 4)) (by rw [show (4 : Int32) = nI 4 from rfl, nI_add]) ?_
  refine go_ialdT dLaw_law_259 hb1 (by exact vp_in_nI (by omega) (by omega)) (congrArg _ (nI_clamp (by omega))) ?_
  refine go_refR dLaw_law_260 ok_mRef_colour im_mRef_colour se_mRef_colour qm_Law_91 hR1.1 (r_colour hR1 hr hv) rv_colour (show k + 4 ≤ 601024 from hk) (show n + 24 ≤ 7293034 from hn) (fun hx2 d2 g2 A2 hR2 hr2 h02 hs2 => ?_) (hnp := np_mRef_colour)
  have hb2 : hx2 b = some (pmT L xs) := (hs2 b (by omega)).trans hb1
  have hu2 := (hs2 (x + 48) (by omega)).trans hu1
  refine go_istore dLaw_law_263 ?_
  refine go_aload_n dLaw_law_265 rfl ?_
  refine go_virtP dLaw_law_266 ok_mRef_thrown im_mRef_thrown se_mRef_thrown qm_Law_85 hR2.1 (r_thrown hR2) ?_ (hnp := np_mRef_thrown) (hcl := show k + 4 ≤ 601024 from hk) (hsl := show n + 24 ≤ 7293034 from hn)
  refine go_top h02 ?_
  refine go_iload dLaw_law_269 rfl ?_
  refine go_icmp_eq (tgt := 276) dLaw_law_271 (fun c1 => ?_) (fun c1 => ?_)
  · refine go_iload dLaw_law_276 rfl ?_
    refine go_if_ne (tgt := 293) dLaw_law_278 (fun c2 => ?_) (fun c2 => ?_)
    · refine go_goto (tgt := 1289) dLaw_law_293 ?_
      refine go_fg 5 (go_fg 6 ?_)
      exact hK hx2 _ _ g2 A2 ⟨hA1.sm hs2 (by omega), hR2, hr2, iv_co hv hr.hz, hS1.cg (fun q h1 => hs2 q (by omega)), hb2, hbx, _, hu2⟩
    · refine go_aload_n dLaw_law_281 rfl ?_
      refine go_iconst (v := 0) dLaw_law_282 (by decide) ?_
      refine go_lald dLaw_law_283 hu2 (vp_in_nI (n := 0) (by omega) (by omega)) rfl ?_
      refine go_iload dLaw_law_284 rfl ?_
      refine go_i2l dLaw_law_286 ?_
      refine go_lcmp dLaw_law_287 ?_
      refine go_if_eq (tgt := 293) dLaw_law_288 (fun c3 => ?_) (fun c3 => ?_)
      · refine go_goto (tgt := 1289) dLaw_law_293 ?_
        refine go_fg 5 (go_fg 6 ?_)
        exact hK hx2 _ _ g2 A2 ⟨hA1.sm hs2 (by omega), hR2, hr2, iv_co hv hr.hz, hS1.cg (fun q h1 => hs2 q (by omega)), hb2, hbx, _, hu2⟩
      · exact absurd (lc_e.mpr (hf1 c2)) c3
  · exact absurd rfl c1
set_option maxHeartbeats 4000000 in
theorem l_law_put {E : pmEv} {hm h : pmH} {d : Bool} {k n b x L i : Nat} {xs : Nat → Int32} {α : aPF} {g : Nat → Int32} {A : Nat → Nat → Int32} {Q : pmA → pmS → Prop} (hI : LI E h b x L xs α g A) (hi : i + 5 ≤ L) (hL : L ≤ 2560) (hk : k + 4 ≤ 601024) (hn : n + 24 ≤ 7293034) (hK : ∀ h' d' α' g' A', LI E h' b x L xs α' g' A' → Go E (mLaw_law, hm, 601024, 7293034) 1289 [some (.ref b), some (.ref x), some (.ref (x + 31)), some (.ref (x + 48)), some (.int (nI i)), none, none] [] (h', none, d') (k + 4) (n + 24) Q) : Go E (mLaw_law, hm, 601024, 7293034) 296 [some (.ref b), some (.ref x), some (.ref (x + 31)), some (.ref (x + 48)), some (.int (nI i)), none, none] [] (h, none, d) k n Q := by
  obtain ⟨hA, hR, hr, hv, hS, hb, hbx, f0, hu⟩ := hI
  refine go_aload_n dLaw_law_296 rfl ?_
  refine go_aload_n dLaw_law_297 rfl ?_
  refine go_iload dLaw_law_298 rfl ?_
  refine go_iconst (v := 1) dLaw_law_300 (by decide) ?_
  refine go_iadd dLaw_law_301 ?_
  refine go_top (y := nI (i + 1)) (by rw [show (1 : Int32) = nI 1 from rfl, nI_add]) ?_
  refine go_ialdT dLaw_law_302 hb (by exact vp_in_nI (by omega) (by omega)) (congrArg _ (nI_clamp (by omega))) ?_
  refine go_aload_n dLaw_law_303 rfl ?_
  refine go_iload dLaw_law_304 rfl ?_
  refine go_iconst (v := 2) dLaw_law_306 (by decide) ?_
  refine go_iadd dLaw_law_307 ?_
  refine go_top (y := nI (i + 2)) (by rw [show (2 : Int32) = nI 2 from rfl, nI_add]) ?_
  refine go_ialdT dLaw_law_308 hb (by exact vp_in_nI (by omega) (by omega)) (congrArg _ (nI_clamp (by omega))) ?_
  refine go_aload_n dLaw_law_309 rfl ?_
  refine go_iload dLaw_law_310 rfl ?_
  refine go_iconst (v := 3) dLaw_law_312 (by decide) ?_
  refine go_iadd dLaw_law_313 ?_
  refine go_top (y := nI (i + 3)) (by rw [show (3 : Int32) = nI 3 from rfl, nI_add]) ?_
  refine go_ialdT dLaw_law_314 hb (by exact vp_in_nI (by omega) (by omega)) (congrArg _ (nI_clamp (by omega))) ?_
  refine go_aload_n dLaw_law_315 rfl ?_
  refine go_iload dLaw_law_316 rfl ?_
  refine go_iconst (v := 4) dLaw_law_318 (by decide) ?_
  refine go_iadd dLaw_law_319 ?_
  refine go_top (y := nI (i + 4)) (by rw [show (4 : Int32) = nI 4 from rfl, nI_add]) ?_
  refine go_ialdT dLaw_law_320 hb (by exact vp_in_nI (by omega) (by omega)) (congrArg _ (nI_clamp (by omega))) ?_
  refine go_aload_n dLaw_law_321 rfl ?_
  refine go_lawS dLaw_law_322 ok_mLaw_put st_mLaw_put qm_Law_92 (h_put (α := α) (a1 := xs (i + 1)) (a2 := xs (i + 2)) (a3 := xs (i + 3)) (a4 := xs (i + 4)) hA hu (by omega) hS) (show k + 4 ≤ 601024 from hk) (show n + 24 ≤ 7293034 from hn) (fun hx1 d1 f1 hA1 hu1 hf1 hs1 => ?_) (hnp := np_mLaw_put)
  have hR1 : RfA hx1 (x + 31) g A := hR.cg (fun q h1 h2 => hs1 q (by omega) (by omega))
  have hb1 : hx1 b = some (pmT L xs) := (hs1 b (by omega) (by omega)).trans hb
  have hS1 : SA E hx1 x := hS.cg (fun q h1 => hs1 q (by omega) (by omega))
  refine go_istore dLaw_law_325 ?_
  refine go_aload_n dLaw_law_327 rfl ?_
  refine go_aload_n dLaw_law_328 rfl ?_
  refine go_iload dLaw_law_329 rfl ?_
  refine go_iconst (v := 1) dLaw_law_331 (by decide) ?_
  refine go_iadd dLaw_law_332 ?_
  refine go_top (y := nI (i + 1)) (by rw [show (1 : Int32) = nI 1 from rfl, nI_add]) ?_
  refine go_ialdT dLaw_law_333 hb1 (by exact vp_in_nI (by omega) (by omega)) (congrArg _ (nI_clamp (by omega))) ?_
  refine go_aload_n dLaw_law_334 rfl ?_
  refine go_iload dLaw_law_335 rfl ?_
  refine go_iconst (v := 2) dLaw_law_337 (by decide) ?_
  refine go_iadd dLaw_law_338 ?_
  refine go_top (y := nI (i + 2)) (by rw [show (2 : Int32) = nI 2 from rfl, nI_add]) ?_
  refine go_ialdT dLaw_law_339 hb1 (by exact vp_in_nI (by omega) (by omega)) (congrArg _ (nI_clamp (by omega))) ?_
  refine go_aload_n dLaw_law_340 rfl ?_
  refine go_iload dLaw_law_341 rfl ?_
  refine go_iconst (v := 3) dLaw_law_343 (by decide) ?_
  refine go_iadd dLaw_law_344 ?_
  refine go_top (y := nI (i + 3)) (by rw [show (3 : Int32) = nI 3 from rfl, nI_add]) ?_
  refine go_ialdT dLaw_law_345 hb1 (by exact vp_in_nI (by omega) (by omega)) (congrArg _ (nI_clamp (by omega))) ?_
  refine go_aload_n dLaw_law_346 rfl ?_
  refine go_iload dLaw_law_347 rfl ?_
  refine go_iconst (v := 4) dLaw_law_349 (by decide) ?_
  refine go_iadd dLaw_law_350 ?_
  refine go_top (y := nI (i + 4)) (by rw [show (4 : Int32) = nI 4 from rfl, nI_add]) ?_
  refine go_ialdT dLaw_law_351 hb1 (by exact vp_in_nI (by omega) (by omega)) (congrArg _ (nI_clamp (by omega))) ?_
  refine go_refR dLaw_law_352 ok_mRef_put im_mRef_put se_mRef_put qm_Law_94 hR1.1 (r_put hR1 hr hv) rv_put (show k + 4 ≤ 601024 from hk) (show n + 24 ≤ 7293034 from hn) (fun hx2 d2 g2 A2 hR2 hr2 h02 hs2 => ?_) (hnp := np_mRef_put)
  have hb2 : hx2 b = some (pmT L xs) := (hs2 b (by omega)).trans hb1
  have hu2 := (hs2 (x + 48) (by omega)).trans hu1
  refine go_istore dLaw_law_355 ?_
  refine go_aload_n dLaw_law_357 rfl ?_
  refine go_virtP dLaw_law_358 ok_mRef_thrown im_mRef_thrown se_mRef_thrown qm_Law_85 hR2.1 (r_thrown hR2) ?_ (hnp := np_mRef_thrown) (hcl := show k + 4 ≤ 601024 from hk) (hsl := show n + 24 ≤ 7293034 from hn)
  refine go_top h02 ?_
  refine go_iload dLaw_law_361 rfl ?_
  refine go_icmp_eq (tgt := 368) dLaw_law_363 (fun c1 => ?_) (fun c1 => ?_)
  · refine go_iload dLaw_law_368 rfl ?_
    refine go_if_ne (tgt := 385) dLaw_law_370 (fun c2 => ?_) (fun c2 => ?_)
    · refine go_goto (tgt := 1289) dLaw_law_385 ?_
      refine go_fg 5 (go_fg 6 ?_)
      exact hK hx2 _ _ g2 A2 ⟨hA1.sm hs2 (by omega), hR2, hr2, iv_pu hv hr.hz, hS1.cg (fun q h1 => hs2 q (by omega)), hb2, hbx, _, hu2⟩
    · refine go_aload_n dLaw_law_373 rfl ?_
      refine go_iconst (v := 0) dLaw_law_374 (by decide) ?_
      refine go_lald dLaw_law_375 hu2 (vp_in_nI (n := 0) (by omega) (by omega)) rfl ?_
      refine go_iload dLaw_law_376 rfl ?_
      refine go_i2l dLaw_law_378 ?_
      refine go_lcmp dLaw_law_379 ?_
      refine go_if_eq (tgt := 385) dLaw_law_380 (fun c3 => ?_) (fun c3 => ?_)
      · refine go_goto (tgt := 1289) dLaw_law_385 ?_
        refine go_fg 5 (go_fg 6 ?_)
        exact hK hx2 _ _ g2 A2 ⟨hA1.sm hs2 (by omega), hR2, hr2, iv_pu hv hr.hz, hS1.cg (fun q h1 => hs2 q (by omega)), hb2, hbx, _, hu2⟩
      · exact absurd (lc_e.mpr (hf1 c2)) c3
  · exact absurd rfl c1
set_option maxHeartbeats 4000000 in
theorem l_law_tag {E : pmEv} {hm h : pmH} {d : Bool} {k n b x L i : Nat} {xs : Nat → Int32} {α : aPF} {g : Nat → Int32} {A : Nat → Nat → Int32} {Q : pmA → pmS → Prop} (hI : LI E h b x L xs α g A) (hi : i + 5 ≤ L) (hL : L ≤ 2560) (hk : k + 4 ≤ 601024) (hn : n + 24 ≤ 7293034) (hK : ∀ h' d' α' g' A', LI E h' b x L xs α' g' A' → Go E (mLaw_law, hm, 601024, 7293034) 1289 [some (.ref b), some (.ref x), some (.ref (x + 31)), some (.ref (x + 48)), some (.int (nI i)), none, none] [] (h', none, d') (k + 4) (n + 24) Q) : Go E (mLaw_law, hm, 601024, 7293034) 388 [some (.ref b), some (.ref x), some (.ref (x + 31)), some (.ref (x + 48)), some (.int (nI i)), none, none] [] (h, none, d) k n Q := by
  obtain ⟨hA, hR, hr, hv, hS, hb, hbx, f0, hu⟩ := hI
  refine go_aload_n dLaw_law_388 rfl ?_
  refine go_aload_n dLaw_law_389 rfl ?_
  refine go_iload dLaw_law_390 rfl ?_
  refine go_iconst (v := 1) dLaw_law_392 (by decide) ?_
  refine go_iadd dLaw_law_393 ?_
  refine go_top (y := nI (i + 1)) (by rw [show (1 : Int32) = nI 1 from rfl, nI_add]) ?_
  refine go_ialdT dLaw_law_394 hb (by exact vp_in_nI (by omega) (by omega)) (congrArg _ (nI_clamp (by omega))) ?_
  refine go_aload_n dLaw_law_395 rfl ?_
  refine go_iload dLaw_law_396 rfl ?_
  refine go_iconst (v := 2) dLaw_law_398 (by decide) ?_
  refine go_iadd dLaw_law_399 ?_
  refine go_top (y := nI (i + 2)) (by rw [show (2 : Int32) = nI 2 from rfl, nI_add]) ?_
  refine go_ialdT dLaw_law_400 hb (by exact vp_in_nI (by omega) (by omega)) (congrArg _ (nI_clamp (by omega))) ?_
  refine go_aload_n dLaw_law_401 rfl ?_
  refine go_lawS dLaw_law_402 ok_mLaw_tag st_mLaw_tag qm_Law_95 (h_tag (α := α) (a1 := xs (i + 1)) (a2 := xs (i + 2)) hA hu (by omega) hS) (show k + 4 ≤ 601024 from hk) (show n + 24 ≤ 7293034 from hn) (fun hx1 d1 f1 hA1 hu1 hf1 hs1 => ?_) (hnp := np_mLaw_tag)
  have hR1 : RfA hx1 (x + 31) g A := hR.cg (fun q h1 h2 => hs1 q (by omega) (by omega))
  have hb1 : hx1 b = some (pmT L xs) := (hs1 b (by omega) (by omega)).trans hb
  have hS1 : SA E hx1 x := hS.cg (fun q h1 => hs1 q (by omega) (by omega))
  refine go_istore dLaw_law_405 ?_
  refine go_aload_n dLaw_law_407 rfl ?_
  refine go_aload_n dLaw_law_408 rfl ?_
  refine go_iload dLaw_law_409 rfl ?_
  refine go_iconst (v := 1) dLaw_law_411 (by decide) ?_
  refine go_iadd dLaw_law_412 ?_
  refine go_top (y := nI (i + 1)) (by rw [show (1 : Int32) = nI 1 from rfl, nI_add]) ?_
  refine go_ialdT dLaw_law_413 hb1 (by exact vp_in_nI (by omega) (by omega)) (congrArg _ (nI_clamp (by omega))) ?_
  refine go_aload_n dLaw_law_414 rfl ?_
  refine go_iload dLaw_law_415 rfl ?_
  refine go_iconst (v := 2) dLaw_law_417 (by decide) ?_
  refine go_iadd dLaw_law_418 ?_
  refine go_top (y := nI (i + 2)) (by rw [show (2 : Int32) = nI 2 from rfl, nI_add]) ?_
  refine go_ialdT dLaw_law_419 hb1 (by exact vp_in_nI (by omega) (by omega)) (congrArg _ (nI_clamp (by omega))) ?_
  refine go_refR dLaw_law_420 ok_mRef_tag im_mRef_tag se_mRef_tag qm_Law_98 hR1.1 (r_tag hR1 hr hv) rv_tag (show k + 4 ≤ 601024 from hk) (show n + 24 ≤ 7293034 from hn) (fun hx2 d2 g2 A2 hR2 hr2 h02 hs2 => ?_) (hnp := np_mRef_tag)
  have hb2 : hx2 b = some (pmT L xs) := (hs2 b (by omega)).trans hb1
  have hu2 := (hs2 (x + 48) (by omega)).trans hu1
  refine go_istore dLaw_law_423 ?_
  refine go_aload_n dLaw_law_425 rfl ?_
  refine go_virtP dLaw_law_426 ok_mRef_thrown im_mRef_thrown se_mRef_thrown qm_Law_85 hR2.1 (r_thrown hR2) ?_ (hnp := np_mRef_thrown) (hcl := show k + 4 ≤ 601024 from hk) (hsl := show n + 24 ≤ 7293034 from hn)
  refine go_top h02 ?_
  refine go_iload dLaw_law_429 rfl ?_
  refine go_icmp_eq (tgt := 436) dLaw_law_431 (fun c1 => ?_) (fun c1 => ?_)
  · refine go_iload dLaw_law_436 rfl ?_
    refine go_if_ne (tgt := 453) dLaw_law_438 (fun c2 => ?_) (fun c2 => ?_)
    · refine go_goto (tgt := 1289) dLaw_law_453 ?_
      refine go_fg 5 (go_fg 6 ?_)
      exact hK hx2 _ _ g2 A2 ⟨hA1.sm hs2 (by omega), hR2, hr2, iv_tg hv, hS1.cg (fun q h1 => hs2 q (by omega)), hb2, hbx, _, hu2⟩
    · refine go_aload_n dLaw_law_441 rfl ?_
      refine go_iconst (v := 0) dLaw_law_442 (by decide) ?_
      refine go_lald dLaw_law_443 hu2 (vp_in_nI (n := 0) (by omega) (by omega)) rfl ?_
      refine go_iload dLaw_law_444 rfl ?_
      refine go_i2l dLaw_law_446 ?_
      refine go_lcmp dLaw_law_447 ?_
      refine go_if_eq (tgt := 453) dLaw_law_448 (fun c3 => ?_) (fun c3 => ?_)
      · refine go_goto (tgt := 1289) dLaw_law_453 ?_
        refine go_fg 5 (go_fg 6 ?_)
        exact hK hx2 _ _ g2 A2 ⟨hA1.sm hs2 (by omega), hR2, hr2, iv_tg hv, hS1.cg (fun q h1 => hs2 q (by omega)), hb2, hbx, _, hu2⟩
      · exact absurd (lc_e.mpr (hf1 c2)) c3
  · exact absurd rfl c1
set_option maxHeartbeats 4000000 in
theorem l_law_extra {E : pmEv} {hm h : pmH} {d : Bool} {k n b x L i : Nat} {xs : Nat → Int32} {α : aPF} {g : Nat → Int32} {A : Nat → Nat → Int32} {Q : pmA → pmS → Prop} (hI : LI E h b x L xs α g A) (hi : i + 5 ≤ L) (hL : L ≤ 2560) (hk : k + 4 ≤ 601024) (hn : n + 24 ≤ 7293034) (hK : ∀ h' d' α' g' A', LI E h' b x L xs α' g' A' → Go E (mLaw_law, hm, 601024, 7293034) 1289 [some (.ref b), some (.ref x), some (.ref (x + 31)), some (.ref (x + 48)), some (.int (nI i)), none, none] [] (h', none, d') (k + 4) (n + 24) Q) : Go E (mLaw_law, hm, 601024, 7293034) 456 [some (.ref b), some (.ref x), some (.ref (x + 31)), some (.ref (x + 48)), some (.int (nI i)), none, none] [] (h, none, d) k n Q := by
  obtain ⟨hA, hR, hr, hv, hS, hb, hbx, f0, hu⟩ := hI
  refine go_aload_n dLaw_law_456 rfl ?_
  refine go_aload_n dLaw_law_457 rfl ?_
  refine go_iload dLaw_law_458 rfl ?_
  refine go_iconst (v := 1) dLaw_law_460 (by decide) ?_
  refine go_iadd dLaw_law_461 ?_
  refine go_top (y := nI (i + 1)) (by rw [show (1 : Int32) = nI 1 from rfl, nI_add]) ?_
  refine go_ialdT dLaw_law_462 hb (by exact vp_in_nI (by omega) (by omega)) (congrArg _ (nI_clamp (by omega))) ?_
  refine go_aload_n dLaw_law_463 rfl ?_
  refine go_lawS dLaw_law_464 ok_mLaw_extra st_mLaw_extra qm_Law_99 (h_extra (α := α) (a1 := xs (i + 1)) hA hu (by omega) hS) (show k + 4 ≤ 601024 from hk) (show n + 24 ≤ 7293034 from hn) (fun hx1 d1 f1 hA1 hu1 hf1 hs1 => ?_) (hnp := np_mLaw_extra)
  have hR1 : RfA hx1 (x + 31) g A := hR.cg (fun q h1 h2 => hs1 q (by omega) (by omega))
  have hb1 : hx1 b = some (pmT L xs) := (hs1 b (by omega) (by omega)).trans hb
  have hS1 : SA E hx1 x := hS.cg (fun q h1 => hs1 q (by omega) (by omega))
  refine go_istore dLaw_law_467 ?_
  refine go_aload_n dLaw_law_469 rfl ?_
  refine go_aload_n dLaw_law_470 rfl ?_
  refine go_iload dLaw_law_471 rfl ?_
  refine go_iconst (v := 1) dLaw_law_473 (by decide) ?_
  refine go_iadd dLaw_law_474 ?_
  refine go_top (y := nI (i + 1)) (by rw [show (1 : Int32) = nI 1 from rfl, nI_add]) ?_
  refine go_ialdT dLaw_law_475 hb1 (by exact vp_in_nI (by omega) (by omega)) (congrArg _ (nI_clamp (by omega))) ?_
  refine go_refR dLaw_law_476 ok_mRef_extra im_mRef_extra se_mRef_extra qm_Law_102 hR1.1 (r_extra hR1 hr hv) rv_extra (show k + 4 ≤ 601024 from hk) (show n + 24 ≤ 7293034 from hn) (fun hx2 d2 g2 A2 hR2 hr2 h02 hs2 => ?_) (hnp := np_mRef_extra)
  have hb2 : hx2 b = some (pmT L xs) := (hs2 b (by omega)).trans hb1
  have hu2 := (hs2 (x + 48) (by omega)).trans hu1
  refine go_istore dLaw_law_479 ?_
  refine go_aload_n dLaw_law_481 rfl ?_
  refine go_virtP dLaw_law_482 ok_mRef_thrown im_mRef_thrown se_mRef_thrown qm_Law_85 hR2.1 (r_thrown hR2) ?_ (hnp := np_mRef_thrown) (hcl := show k + 4 ≤ 601024 from hk) (hsl := show n + 24 ≤ 7293034 from hn)
  refine go_top h02 ?_
  refine go_iload dLaw_law_485 rfl ?_
  refine go_icmp_eq (tgt := 492) dLaw_law_487 (fun c1 => ?_) (fun c1 => ?_)
  · refine go_iload dLaw_law_492 rfl ?_
    refine go_if_ne (tgt := 509) dLaw_law_494 (fun c2 => ?_) (fun c2 => ?_)
    · refine go_goto (tgt := 1289) dLaw_law_509 ?_
      refine go_fg 5 (go_fg 6 ?_)
      exact hK hx2 _ _ g2 A2 ⟨hA1.sm hs2 (by omega), hR2, hr2, iv_ex hv, hS1.cg (fun q h1 => hs2 q (by omega)), hb2, hbx, _, hu2⟩
    · refine go_aload_n dLaw_law_497 rfl ?_
      refine go_iconst (v := 0) dLaw_law_498 (by decide) ?_
      refine go_lald dLaw_law_499 hu2 (vp_in_nI (n := 0) (by omega) (by omega)) rfl ?_
      refine go_iload dLaw_law_500 rfl ?_
      refine go_i2l dLaw_law_502 ?_
      refine go_lcmp dLaw_law_503 ?_
      refine go_if_eq (tgt := 509) dLaw_law_504 (fun c3 => ?_) (fun c3 => ?_)
      · refine go_goto (tgt := 1289) dLaw_law_509 ?_
        refine go_fg 5 (go_fg 6 ?_)
        exact hK hx2 _ _ g2 A2 ⟨hA1.sm hs2 (by omega), hR2, hr2, iv_ex hv, hS1.cg (fun q h1 => hs2 q (by omega)), hb2, hbx, _, hu2⟩
      · exact absurd (lc_e.mpr (hf1 c2)) c3
  · exact absurd rfl c1
set_option maxHeartbeats 4000000 in
theorem l_law_byteOf {E : pmEv} {hm h : pmH} {d : Bool} {k n b x L i : Nat} {xs : Nat → Int32} {α : aPF} {g : Nat → Int32} {A : Nat → Nat → Int32} {Q : pmA → pmS → Prop} (hI : LI E h b x L xs α g A) (hi : i + 5 ≤ L) (hL : L ≤ 2560) (hk : k + 4 ≤ 601024) (hn : n + 24 ≤ 7293034) (hK : ∀ h' d' α' g' A', LI E h' b x L xs α' g' A' → Go E (mLaw_law, hm, 601024, 7293034) 1289 [some (.ref b), some (.ref x), some (.ref (x + 31)), some (.ref (x + 48)), some (.int (nI i)), none, none] [] (h', none, d') (k + 4) (n + 24) Q) : Go E (mLaw_law, hm, 601024, 7293034) 512 [some (.ref b), some (.ref x), some (.ref (x + 31)), some (.ref (x + 48)), some (.int (nI i)), none, none] [] (h, none, d) k n Q := by
  obtain ⟨hA, hR, hr, hv, hS, hb, hbx, f0, hu⟩ := hI
  refine go_aload_n dLaw_law_512 rfl ?_
  refine go_aload_n dLaw_law_513 rfl ?_
  refine go_iload dLaw_law_514 rfl ?_
  refine go_iconst (v := 1) dLaw_law_516 (by decide) ?_
  refine go_iadd dLaw_law_517 ?_
  refine go_top (y := nI (i + 1)) (by rw [show (1 : Int32) = nI 1 from rfl, nI_add]) ?_
  refine go_ialdT dLaw_law_518 hb (by exact vp_in_nI (by omega) (by omega)) (congrArg _ (nI_clamp (by omega))) ?_
  refine go_aload_n dLaw_law_519 rfl ?_
  refine go_iload dLaw_law_520 rfl ?_
  refine go_iconst (v := 2) dLaw_law_522 (by decide) ?_
  refine go_iadd dLaw_law_523 ?_
  refine go_top (y := nI (i + 2)) (by rw [show (2 : Int32) = nI 2 from rfl, nI_add]) ?_
  refine go_ialdT dLaw_law_524 hb (by exact vp_in_nI (by omega) (by omega)) (congrArg _ (nI_clamp (by omega))) ?_
  refine go_aload_n dLaw_law_525 rfl ?_
  refine go_lawS dLaw_law_526 ok_mLaw_byteOf st_mLaw_byteOf qm_Law_103 (h_byteOf (α := α) (a1 := xs (i + 1)) (a2 := xs (i + 2)) hA hu (by omega) hS) (show k + 4 ≤ 601024 from hk) (show n + 24 ≤ 7293034 from hn) (fun hx1 d1 f1 hA1 hu1 hf1 hs1 => ?_) (hnp := np_mLaw_byteOf)
  have hR1 : RfA hx1 (x + 31) g A := hR.cg (fun q h1 h2 => hs1 q (by omega) (by omega))
  have hb1 : hx1 b = some (pmT L xs) := (hs1 b (by omega) (by omega)).trans hb
  have hS1 : SA E hx1 x := hS.cg (fun q h1 => hs1 q (by omega) (by omega))
  refine go_istore dLaw_law_529 ?_
  refine go_aload_n dLaw_law_531 rfl ?_
  refine go_aload_n dLaw_law_532 rfl ?_
  refine go_iload dLaw_law_533 rfl ?_
  refine go_iconst (v := 1) dLaw_law_535 (by decide) ?_
  refine go_iadd dLaw_law_536 ?_
  refine go_top (y := nI (i + 1)) (by rw [show (1 : Int32) = nI 1 from rfl, nI_add]) ?_
  refine go_ialdT dLaw_law_537 hb1 (by exact vp_in_nI (by omega) (by omega)) (congrArg _ (nI_clamp (by omega))) ?_
  refine go_aload_n dLaw_law_538 rfl ?_
  refine go_iload dLaw_law_539 rfl ?_
  refine go_iconst (v := 2) dLaw_law_541 (by decide) ?_
  refine go_iadd dLaw_law_542 ?_
  refine go_top (y := nI (i + 2)) (by rw [show (2 : Int32) = nI 2 from rfl, nI_add]) ?_
  refine go_ialdT dLaw_law_543 hb1 (by exact vp_in_nI (by omega) (by omega)) (congrArg _ (nI_clamp (by omega))) ?_
  refine go_refR dLaw_law_544 ok_mRef_byteOf im_mRef_byteOf se_mRef_byteOf qm_Law_105 hR1.1 (r_byteOf hR1 hr hv) rv_byteOf (show k + 4 ≤ 601024 from hk) (show n + 24 ≤ 7293034 from hn) (fun hx2 d2 g2 A2 hR2 hr2 h02 hs2 => ?_) (hnp := np_mRef_byteOf)
  have hb2 : hx2 b = some (pmT L xs) := (hs2 b (by omega)).trans hb1
  have hu2 := (hs2 (x + 48) (by omega)).trans hu1
  refine go_istore dLaw_law_547 ?_
  refine go_aload_n dLaw_law_549 rfl ?_
  refine go_virtP dLaw_law_550 ok_mRef_thrown im_mRef_thrown se_mRef_thrown qm_Law_85 hR2.1 (r_thrown hR2) ?_ (hnp := np_mRef_thrown) (hcl := show k + 4 ≤ 601024 from hk) (hsl := show n + 24 ≤ 7293034 from hn)
  refine go_top h02 ?_
  refine go_iload dLaw_law_553 rfl ?_
  refine go_icmp_eq (tgt := 560) dLaw_law_555 (fun c1 => ?_) (fun c1 => ?_)
  · refine go_iload dLaw_law_560 rfl ?_
    refine go_if_ne (tgt := 577) dLaw_law_562 (fun c2 => ?_) (fun c2 => ?_)
    · refine go_goto (tgt := 1289) dLaw_law_577 ?_
      refine go_fg 5 (go_fg 6 ?_)
      exact hK hx2 _ _ g2 A2 ⟨hA1.sm hs2 (by omega), hR2, hr2, iv_bo hv hr.hz, hS1.cg (fun q h1 => hs2 q (by omega)), hb2, hbx, _, hu2⟩
    · refine go_aload_n dLaw_law_565 rfl ?_
      refine go_iconst (v := 0) dLaw_law_566 (by decide) ?_
      refine go_lald dLaw_law_567 hu2 (vp_in_nI (n := 0) (by omega) (by omega)) rfl ?_
      refine go_iload dLaw_law_568 rfl ?_
      refine go_i2l dLaw_law_570 ?_
      refine go_lcmp dLaw_law_571 ?_
      refine go_if_eq (tgt := 577) dLaw_law_572 (fun c3 => ?_) (fun c3 => ?_)
      · refine go_goto (tgt := 1289) dLaw_law_577 ?_
        refine go_fg 5 (go_fg 6 ?_)
        exact hK hx2 _ _ g2 A2 ⟨hA1.sm hs2 (by omega), hR2, hr2, iv_bo hv hr.hz, hS1.cg (fun q h1 => hs2 q (by omega)), hb2, hbx, _, hu2⟩
      · exact absurd (lc_e.mpr (hf1 c2)) c3
  · exact absurd rfl c1
set_option maxHeartbeats 4000000 in
theorem l_law_reduce {E : pmEv} {hm h : pmH} {d : Bool} {k n b x L i : Nat} {xs : Nat → Int32} {α : aPF} {g : Nat → Int32} {A : Nat → Nat → Int32} {Q : pmA → pmS → Prop} (hI : LI E h b x L xs α g A) (hi : i + 5 ≤ L) (hL : L ≤ 2560) (hk : k + 4 ≤ 601024) (hn : n + 24 ≤ 7293034) (hK : ∀ h' d' α' g' A', LI E h' b x L xs α' g' A' → Go E (mLaw_law, hm, 601024, 7293034) 1289 [some (.ref b), some (.ref x), some (.ref (x + 31)), some (.ref (x + 48)), some (.int (nI i)), none, none] [] (h', none, d') (k + 4) (n + 24) Q) : Go E (mLaw_law, hm, 601024, 7293034) 580 [some (.ref b), some (.ref x), some (.ref (x + 31)), some (.ref (x + 48)), some (.int (nI i)), none, none] [] (h, none, d) k n Q := by
  obtain ⟨hA, hR, hr, hv, hS, hb, hbx, f0, hu⟩ := hI
  refine go_aload_n dLaw_law_580 rfl ?_
  refine go_aload_n dLaw_law_581 rfl ?_
  refine go_lawS dLaw_law_582 ok_mLaw_reduce st_mLaw_reduce qm_Law_106 (h_reduce (α := α)  hA hu (by omega) hS) (show k + 4 ≤ 601024 from hk) (show n + 24 ≤ 7293034 from hn) (fun hx1 d1 f1 hA1 hu1 hf1 hs1 => ?_) (hnp := np_mLaw_reduce)
  have hR1 : RfA hx1 (x + 31) g A := hR.cg (fun q h1 h2 => hs1 q (by omega) (by omega))
  have hb1 : hx1 b = some (pmT L xs) := (hs1 b (by omega) (by omega)).trans hb
  have hS1 : SA E hx1 x := hS.cg (fun q h1 => hs1 q (by omega) (by omega))
  refine go_istore dLaw_law_585 ?_
  refine go_aload_n dLaw_law_587 rfl ?_
  refine go_refR dLaw_law_588 ok_mRef_reduce im_mRef_reduce se_mRef_reduce qm_Law_109 hR1.1 (r_reduce hR1 hr hv) rv_reduce (show k + 4 ≤ 601024 from hk) (show n + 24 ≤ 7293034 from hn) (fun hx2 d2 g2 A2 hR2 hr2 h02 hs2 => ?_) (hnp := np_mRef_reduce)
  have hb2 : hx2 b = some (pmT L xs) := (hs2 b (by omega)).trans hb1
  have hu2 := (hs2 (x + 48) (by omega)).trans hu1
  refine go_istore dLaw_law_591 ?_
  refine go_aload_n dLaw_law_593 rfl ?_
  refine go_virtP dLaw_law_594 ok_mRef_thrown im_mRef_thrown se_mRef_thrown qm_Law_85 hR2.1 (r_thrown hR2) ?_ (hnp := np_mRef_thrown) (hcl := show k + 4 ≤ 601024 from hk) (hsl := show n + 24 ≤ 7293034 from hn)
  refine go_top h02 ?_
  refine go_iload dLaw_law_597 rfl ?_
  refine go_icmp_eq (tgt := 604) dLaw_law_599 (fun c1 => ?_) (fun c1 => ?_)
  · refine go_iload dLaw_law_604 rfl ?_
    refine go_if_ne (tgt := 621) dLaw_law_606 (fun c2 => ?_) (fun c2 => ?_)
    · refine go_goto (tgt := 1289) dLaw_law_621 ?_
      refine go_fg 5 (go_fg 6 ?_)
      exact hK hx2 _ _ g2 A2 ⟨hA1.sm hs2 (by omega), hR2, hr2, iv_re hv hr.hz, hS1.cg (fun q h1 => hs2 q (by omega)), hb2, hbx, _, hu2⟩
    · refine go_aload_n dLaw_law_609 rfl ?_
      refine go_iconst (v := 0) dLaw_law_610 (by decide) ?_
      refine go_lald dLaw_law_611 hu2 (vp_in_nI (n := 0) (by omega) (by omega)) rfl ?_
      refine go_iload dLaw_law_612 rfl ?_
      refine go_i2l dLaw_law_614 ?_
      refine go_lcmp dLaw_law_615 ?_
      refine go_if_eq (tgt := 621) dLaw_law_616 (fun c3 => ?_) (fun c3 => ?_)
      · refine go_goto (tgt := 1289) dLaw_law_621 ?_
        refine go_fg 5 (go_fg 6 ?_)
        exact hK hx2 _ _ g2 A2 ⟨hA1.sm hs2 (by omega), hR2, hr2, iv_re hv hr.hz, hS1.cg (fun q h1 => hs2 q (by omega)), hb2, hbx, _, hu2⟩
      · exact absurd (lc_e.mpr (hf1 c2)) c3
  · exact absurd rfl c1
set_option maxHeartbeats 4000000 in
theorem l_law_write {E : pmEv} {hm h : pmH} {d : Bool} {k n b x L i : Nat} {xs : Nat → Int32} {α : aPF} {g : Nat → Int32} {A : Nat → Nat → Int32} {Q : pmA → pmS → Prop} (hI : LI E h b x L xs α g A) (hi : i + 5 ≤ L) (hL : L ≤ 2560) (hk : k + 4 ≤ 601024) (hn : n + 24 ≤ 7293034) (hK : ∀ h' d' α' g' A', LI E h' b x L xs α' g' A' → Go E (mLaw_law, hm, 601024, 7293034) 1289 [some (.ref b), some (.ref x), some (.ref (x + 31)), some (.ref (x + 48)), some (.int (nI i)), none, none] [] (h', none, d') (k + 4) (n + 24) Q) : Go E (mLaw_law, hm, 601024, 7293034) 624 [some (.ref b), some (.ref x), some (.ref (x + 31)), some (.ref (x + 48)), some (.int (nI i)), none, none] [] (h, none, d) k n Q := by
  obtain ⟨hA, hR, hr, hv, hS, hb, hbx, f0, hu⟩ := hI
  refine go_aload_n dLaw_law_624 rfl ?_
  refine go_aload_n dLaw_law_625 rfl ?_
  refine go_lawS dLaw_law_626 ok_mLaw_write st_mLaw_write qm_Law_110 (h_write (α := α)  hA hu (by omega) hS) (show k + 4 ≤ 601024 from hk) (show n + 24 ≤ 7293034 from hn) (fun hx1 d1 f1 hA1 hu1 hf1 hs1 => ?_) (hnp := np_mLaw_write)
  have hR1 : RfA hx1 (x + 31) g A := hR.cg (fun q h1 h2 => hs1 q (by omega) (by omega))
  have hb1 : hx1 b = some (pmT L xs) := (hs1 b (by omega) (by omega)).trans hb
  have hS1 : SA E hx1 x := hS.cg (fun q h1 => hs1 q (by omega) (by omega))
  refine go_istore dLaw_law_629 ?_
  refine go_aload_n dLaw_law_631 rfl ?_
  refine go_refR dLaw_law_632 ok_mRef_write im_mRef_write se_mRef_write qm_Law_112 hR1.1 (r_write hR1 hr hv) rv_write (show k + 4 ≤ 601024 from hk) (show n + 24 ≤ 7293034 from hn) (fun hx2 d2 g2 A2 hR2 hr2 h02 hs2 => ?_) (hnp := np_mRef_write)
  have hb2 : hx2 b = some (pmT L xs) := (hs2 b (by omega)).trans hb1
  have hu2 := (hs2 (x + 48) (by omega)).trans hu1
  refine go_istore dLaw_law_635 ?_
  refine go_aload_n dLaw_law_637 rfl ?_
  refine go_virtP dLaw_law_638 ok_mRef_thrown im_mRef_thrown se_mRef_thrown qm_Law_85 hR2.1 (r_thrown hR2) ?_ (hnp := np_mRef_thrown) (hcl := show k + 4 ≤ 601024 from hk) (hsl := show n + 24 ≤ 7293034 from hn)
  refine go_top h02 ?_
  refine go_iload dLaw_law_641 rfl ?_
  refine go_icmp_eq (tgt := 648) dLaw_law_643 (fun c1 => ?_) (fun c1 => ?_)
  · refine go_iload dLaw_law_648 rfl ?_
    refine go_if_ne (tgt := 665) dLaw_law_650 (fun c2 => ?_) (fun c2 => ?_)
    · refine go_goto (tgt := 1289) dLaw_law_665 ?_
      refine go_fg 5 (go_fg 6 ?_)
      exact hK hx2 _ _ g2 A2 ⟨hA1.sm hs2 (by omega), hR2, hr2, iv_wr hv hr.hz, hS1.cg (fun q h1 => hs2 q (by omega)), hb2, hbx, _, hu2⟩
    · refine go_aload_n dLaw_law_653 rfl ?_
      refine go_iconst (v := 0) dLaw_law_654 (by decide) ?_
      refine go_lald dLaw_law_655 hu2 (vp_in_nI (n := 0) (by omega) (by omega)) rfl ?_
      refine go_iload dLaw_law_656 rfl ?_
      refine go_i2l dLaw_law_658 ?_
      refine go_lcmp dLaw_law_659 ?_
      refine go_if_eq (tgt := 665) dLaw_law_660 (fun c3 => ?_) (fun c3 => ?_)
      · refine go_goto (tgt := 1289) dLaw_law_665 ?_
        refine go_fg 5 (go_fg 6 ?_)
        exact hK hx2 _ _ g2 A2 ⟨hA1.sm hs2 (by omega), hR2, hr2, iv_wr hv hr.hz, hS1.cg (fun q h1 => hs2 q (by omega)), hb2, hbx, _, hu2⟩
      · exact absurd (lc_e.mpr (hf1 c2)) c3
  · exact absurd rfl c1
set_option maxHeartbeats 4000000 in
theorem l_law_byteAt {E : pmEv} {hm h : pmH} {d : Bool} {k n b x L i : Nat} {xs : Nat → Int32} {α : aPF} {g : Nat → Int32} {A : Nat → Nat → Int32} {Q : pmA → pmS → Prop} (hI : LI E h b x L xs α g A) (hi : i + 5 ≤ L) (hL : L ≤ 2560) (hk : k + 4 ≤ 601024) (hn : n + 24 ≤ 7293034) (hK : ∀ h' d' α' g' A', LI E h' b x L xs α' g' A' → Go E (mLaw_law, hm, 601024, 7293034) 1289 [some (.ref b), some (.ref x), some (.ref (x + 31)), some (.ref (x + 48)), some (.int (nI i)), none, none] [] (h', none, d') (k + 4) (n + 24) Q) : Go E (mLaw_law, hm, 601024, 7293034) 668 [some (.ref b), some (.ref x), some (.ref (x + 31)), some (.ref (x + 48)), some (.int (nI i)), none, none] [] (h, none, d) k n Q := by
  obtain ⟨hA, hR, hr, hv, hS, hb, hbx, f0, hu⟩ := hI
  refine go_aload_n dLaw_law_668 rfl ?_
  refine go_aload_n dLaw_law_669 rfl ?_
  refine go_iload dLaw_law_670 rfl ?_
  refine go_iconst (v := 1) dLaw_law_672 (by decide) ?_
  refine go_iadd dLaw_law_673 ?_
  refine go_top (y := nI (i + 1)) (by rw [show (1 : Int32) = nI 1 from rfl, nI_add]) ?_
  refine go_ialdT dLaw_law_674 hb (by exact vp_in_nI (by omega) (by omega)) (congrArg _ (nI_clamp (by omega))) ?_
  refine go_aload_n dLaw_law_675 rfl ?_
  refine go_lawS dLaw_law_676 ok_mLaw_byteAt st_mLaw_byteAt qm_Law_113 (h_byteAt (α := α) (a1 := xs (i + 1)) hA hu (by omega) hS) (show k + 4 ≤ 601024 from hk) (show n + 24 ≤ 7293034 from hn) (fun hx1 d1 f1 hA1 hu1 hf1 hs1 => ?_) (hnp := np_mLaw_byteAt)
  have hR1 : RfA hx1 (x + 31) g A := hR.cg (fun q h1 h2 => hs1 q (by omega) (by omega))
  have hb1 : hx1 b = some (pmT L xs) := (hs1 b (by omega) (by omega)).trans hb
  have hS1 : SA E hx1 x := hS.cg (fun q h1 => hs1 q (by omega) (by omega))
  refine go_istore dLaw_law_679 ?_
  refine go_aload_n dLaw_law_681 rfl ?_
  refine go_aload_n dLaw_law_682 rfl ?_
  refine go_iload dLaw_law_683 rfl ?_
  refine go_iconst (v := 1) dLaw_law_685 (by decide) ?_
  refine go_iadd dLaw_law_686 ?_
  refine go_top (y := nI (i + 1)) (by rw [show (1 : Int32) = nI 1 from rfl, nI_add]) ?_
  refine go_ialdT dLaw_law_687 hb1 (by exact vp_in_nI (by omega) (by omega)) (congrArg _ (nI_clamp (by omega))) ?_
  refine go_refR dLaw_law_688 ok_mRef_byteAt im_mRef_byteAt se_mRef_byteAt qm_Law_115 hR1.1 (r_byteAt hR1 hr hv) rv_byteAt (show k + 4 ≤ 601024 from hk) (show n + 24 ≤ 7293034 from hn) (fun hx2 d2 g2 A2 hR2 hr2 h02 hs2 => ?_) (hnp := np_mRef_byteAt)
  have hb2 : hx2 b = some (pmT L xs) := (hs2 b (by omega)).trans hb1
  have hu2 := (hs2 (x + 48) (by omega)).trans hu1
  refine go_istore dLaw_law_691 ?_
  refine go_aload_n dLaw_law_693 rfl ?_
  refine go_virtP dLaw_law_694 ok_mRef_thrown im_mRef_thrown se_mRef_thrown qm_Law_85 hR2.1 (r_thrown hR2) ?_ (hnp := np_mRef_thrown) (hcl := show k + 4 ≤ 601024 from hk) (hsl := show n + 24 ≤ 7293034 from hn)
  refine go_top h02 ?_
  refine go_iload dLaw_law_697 rfl ?_
  refine go_icmp_eq (tgt := 704) dLaw_law_699 (fun c1 => ?_) (fun c1 => ?_)
  · refine go_iload dLaw_law_704 rfl ?_
    refine go_if_ne (tgt := 721) dLaw_law_706 (fun c2 => ?_) (fun c2 => ?_)
    · refine go_goto (tgt := 1289) dLaw_law_721 ?_
      refine go_fg 5 (go_fg 6 ?_)
      exact hK hx2 _ _ g2 A2 ⟨hA1.sm hs2 (by omega), hR2, hr2, iv_ba hv, hS1.cg (fun q h1 => hs2 q (by omega)), hb2, hbx, _, hu2⟩
    · refine go_aload_n dLaw_law_709 rfl ?_
      refine go_iconst (v := 0) dLaw_law_710 (by decide) ?_
      refine go_lald dLaw_law_711 hu2 (vp_in_nI (n := 0) (by omega) (by omega)) rfl ?_
      refine go_iload dLaw_law_712 rfl ?_
      refine go_i2l dLaw_law_714 ?_
      refine go_lcmp dLaw_law_715 ?_
      refine go_if_eq (tgt := 721) dLaw_law_716 (fun c3 => ?_) (fun c3 => ?_)
      · refine go_goto (tgt := 1289) dLaw_law_721 ?_
        refine go_fg 5 (go_fg 6 ?_)
        exact hK hx2 _ _ g2 A2 ⟨hA1.sm hs2 (by omega), hR2, hr2, iv_ba hv, hS1.cg (fun q h1 => hs2 q (by omega)), hb2, hbx, _, hu2⟩
      · exact absurd (lc_e.mpr (hf1 c2)) c3
  · exact absurd rfl c1
set_option maxHeartbeats 4000000 in
theorem l_law_feed {E : pmEv} {hm h : pmH} {d : Bool} {k n b x L i : Nat} {xs : Nat → Int32} {α : aPF} {g : Nat → Int32} {A : Nat → Nat → Int32} {Q : pmA → pmS → Prop} (hI : LI E h b x L xs α g A) (hi : i + 5 ≤ L) (hL : L ≤ 2560) (hk : k + 4 ≤ 601024) (hn : n + 24 ≤ 7293034) (hK : ∀ h' d' α' g' A', LI E h' b x L xs α' g' A' → Go E (mLaw_law, hm, 601024, 7293034) 1289 [some (.ref b), some (.ref x), some (.ref (x + 31)), some (.ref (x + 48)), some (.int (nI i)), none, none] [] (h', none, d') (k + 4) (n + 24) Q) : Go E (mLaw_law, hm, 601024, 7293034) 724 [some (.ref b), some (.ref x), some (.ref (x + 31)), some (.ref (x + 48)), some (.int (nI i)), none, none] [] (h, none, d) k n Q := by
  obtain ⟨hA, hR, hr, hv, hS, hb, hbx, f0, hu⟩ := hI
  refine go_aload_n dLaw_law_724 rfl ?_
  refine go_aload_n dLaw_law_725 rfl ?_
  refine go_iload dLaw_law_726 rfl ?_
  refine go_iconst (v := 1) dLaw_law_728 (by decide) ?_
  refine go_iadd dLaw_law_729 ?_
  refine go_top (y := nI (i + 1)) (by rw [show (1 : Int32) = nI 1 from rfl, nI_add]) ?_
  refine go_ialdT dLaw_law_730 hb (by exact vp_in_nI (by omega) (by omega)) (congrArg _ (nI_clamp (by omega))) ?_
  refine go_aload_n dLaw_law_731 rfl ?_
  refine go_lawS dLaw_law_732 ok_mLaw_feed st_mLaw_feed qm_Law_116 (h_feed (α := α) (a1 := xs (i + 1)) hA hu (by omega) hS) (show k + 4 ≤ 601024 from hk) (show n + 24 ≤ 7293034 from hn) (fun hx1 d1 f1 hA1 hu1 hf1 hs1 => ?_) (hnp := np_mLaw_feed)
  have hR1 : RfA hx1 (x + 31) g A := hR.cg (fun q h1 h2 => hs1 q (by omega) (by omega))
  have hb1 : hx1 b = some (pmT L xs) := (hs1 b (by omega) (by omega)).trans hb
  have hS1 : SA E hx1 x := hS.cg (fun q h1 => hs1 q (by omega) (by omega))
  refine go_istore dLaw_law_735 ?_
  refine go_aload_n dLaw_law_737 rfl ?_
  refine go_aload_n dLaw_law_738 rfl ?_
  refine go_iload dLaw_law_739 rfl ?_
  refine go_iconst (v := 1) dLaw_law_741 (by decide) ?_
  refine go_iadd dLaw_law_742 ?_
  refine go_top (y := nI (i + 1)) (by rw [show (1 : Int32) = nI 1 from rfl, nI_add]) ?_
  refine go_ialdT dLaw_law_743 hb1 (by exact vp_in_nI (by omega) (by omega)) (congrArg _ (nI_clamp (by omega))) ?_
  refine go_refR dLaw_law_744 ok_mRef_feed im_mRef_feed se_mRef_feed qm_Law_118 hR1.1 (r_feed hR1 hr hv) rv_feed (show k + 4 ≤ 601024 from hk) (show n + 24 ≤ 7293034 from hn) (fun hx2 d2 g2 A2 hR2 hr2 h02 hs2 => ?_) (hnp := np_mRef_feed)
  have hb2 : hx2 b = some (pmT L xs) := (hs2 b (by omega)).trans hb1
  have hu2 := (hs2 (x + 48) (by omega)).trans hu1
  refine go_istore dLaw_law_747 ?_
  refine go_aload_n dLaw_law_749 rfl ?_
  refine go_virtP dLaw_law_750 ok_mRef_thrown im_mRef_thrown se_mRef_thrown qm_Law_85 hR2.1 (r_thrown hR2) ?_ (hnp := np_mRef_thrown) (hcl := show k + 4 ≤ 601024 from hk) (hsl := show n + 24 ≤ 7293034 from hn)
  refine go_top h02 ?_
  refine go_iload dLaw_law_753 rfl ?_
  refine go_icmp_eq (tgt := 760) dLaw_law_755 (fun c1 => ?_) (fun c1 => ?_)
  · refine go_iload dLaw_law_760 rfl ?_
    refine go_if_ne (tgt := 777) dLaw_law_762 (fun c2 => ?_) (fun c2 => ?_)
    · refine go_goto (tgt := 1289) dLaw_law_777 ?_
      refine go_fg 5 (go_fg 6 ?_)
      exact hK hx2 _ _ g2 A2 ⟨hA1.sm hs2 (by omega), hR2, hr2, iv_fe hv, hS1.cg (fun q h1 => hs2 q (by omega)), hb2, hbx, _, hu2⟩
    · refine go_aload_n dLaw_law_765 rfl ?_
      refine go_iconst (v := 0) dLaw_law_766 (by decide) ?_
      refine go_lald dLaw_law_767 hu2 (vp_in_nI (n := 0) (by omega) (by omega)) rfl ?_
      refine go_iload dLaw_law_768 rfl ?_
      refine go_i2l dLaw_law_770 ?_
      refine go_lcmp dLaw_law_771 ?_
      refine go_if_eq (tgt := 777) dLaw_law_772 (fun c3 => ?_) (fun c3 => ?_)
      · refine go_goto (tgt := 1289) dLaw_law_777 ?_
        refine go_fg 5 (go_fg 6 ?_)
        exact hK hx2 _ _ g2 A2 ⟨hA1.sm hs2 (by omega), hR2, hr2, iv_fe hv, hS1.cg (fun q h1 => hs2 q (by omega)), hb2, hbx, _, hu2⟩
      · exact absurd (lc_e.mpr (hf1 c2)) c3
  · exact absurd rfl c1
set_option maxHeartbeats 4000000 in
theorem l_law_pass {E : pmEv} {hm h : pmH} {d : Bool} {k n b x L i : Nat} {xs : Nat → Int32} {α : aPF} {g : Nat → Int32} {A : Nat → Nat → Int32} {Q : pmA → pmS → Prop} (hI : LI E h b x L xs α g A) (hi : i + 5 ≤ L) (hL : L ≤ 2560) (hk : k + 4 ≤ 601024) (hn : n + 24 ≤ 7293034) (hK : ∀ h' d' α' g' A', LI E h' b x L xs α' g' A' → Go E (mLaw_law, hm, 601024, 7293034) 1289 [some (.ref b), some (.ref x), some (.ref (x + 31)), some (.ref (x + 48)), some (.int (nI i)), none, none] [] (h', none, d') (k + 4) (n + 24) Q) : Go E (mLaw_law, hm, 601024, 7293034) 780 [some (.ref b), some (.ref x), some (.ref (x + 31)), some (.ref (x + 48)), some (.int (nI i)), none, none] [] (h, none, d) k n Q := by
  obtain ⟨hA, hR, hr, hv, hS, hb, hbx, f0, hu⟩ := hI
  refine go_aload_n dLaw_law_780 rfl ?_
  refine go_aload_n dLaw_law_781 rfl ?_
  refine go_iload dLaw_law_782 rfl ?_
  refine go_iconst (v := 1) dLaw_law_784 (by decide) ?_
  refine go_iadd dLaw_law_785 ?_
  refine go_top (y := nI (i + 1)) (by rw [show (1 : Int32) = nI 1 from rfl, nI_add]) ?_
  refine go_ialdT dLaw_law_786 hb (by exact vp_in_nI (by omega) (by omega)) (congrArg _ (nI_clamp (by omega))) ?_
  refine go_aload_n dLaw_law_787 rfl ?_
  refine go_iload dLaw_law_788 rfl ?_
  refine go_iconst (v := 2) dLaw_law_790 (by decide) ?_
  refine go_iadd dLaw_law_791 ?_
  refine go_top (y := nI (i + 2)) (by rw [show (2 : Int32) = nI 2 from rfl, nI_add]) ?_
  refine go_ialdT dLaw_law_792 hb (by exact vp_in_nI (by omega) (by omega)) (congrArg _ (nI_clamp (by omega))) ?_
  refine go_aload_n dLaw_law_793 rfl ?_
  refine go_lawS dLaw_law_794 ok_mLaw_pass st_mLaw_pass qm_Law_119 (h_pass (α := α) (a1 := xs (i + 1)) (a2 := xs (i + 2)) hA hu (by omega) hS) (show k + 4 ≤ 601024 from hk) (show n + 24 ≤ 7293034 from hn) (fun hx1 d1 f1 hA1 hu1 hf1 hs1 => ?_) (hnp := np_mLaw_pass)
  have hR1 : RfA hx1 (x + 31) g A := hR.cg (fun q h1 h2 => hs1 q (by omega) (by omega))
  have hb1 : hx1 b = some (pmT L xs) := (hs1 b (by omega) (by omega)).trans hb
  have hS1 : SA E hx1 x := hS.cg (fun q h1 => hs1 q (by omega) (by omega))
  refine go_istore dLaw_law_797 ?_
  refine go_aload_n dLaw_law_799 rfl ?_
  refine go_aload_n dLaw_law_800 rfl ?_
  refine go_iload dLaw_law_801 rfl ?_
  refine go_iconst (v := 1) dLaw_law_803 (by decide) ?_
  refine go_iadd dLaw_law_804 ?_
  refine go_top (y := nI (i + 1)) (by rw [show (1 : Int32) = nI 1 from rfl, nI_add]) ?_
  refine go_ialdT dLaw_law_805 hb1 (by exact vp_in_nI (by omega) (by omega)) (congrArg _ (nI_clamp (by omega))) ?_
  refine go_aload_n dLaw_law_806 rfl ?_
  refine go_iload dLaw_law_807 rfl ?_
  refine go_iconst (v := 2) dLaw_law_809 (by decide) ?_
  refine go_iadd dLaw_law_810 ?_
  refine go_top (y := nI (i + 2)) (by rw [show (2 : Int32) = nI 2 from rfl, nI_add]) ?_
  refine go_ialdT dLaw_law_811 hb1 (by exact vp_in_nI (by omega) (by omega)) (congrArg _ (nI_clamp (by omega))) ?_
  refine go_refR dLaw_law_812 ok_mRef_pass im_mRef_pass se_mRef_pass qm_Law_121 hR1.1 (r_pass hR1 hr hv) rv_pass (show k + 4 ≤ 601024 from hk) (show n + 24 ≤ 7293034 from hn) (fun hx2 d2 g2 A2 hR2 hr2 h02 hs2 => ?_) (hnp := np_mRef_pass)
  have hb2 : hx2 b = some (pmT L xs) := (hs2 b (by omega)).trans hb1
  have hu2 := (hs2 (x + 48) (by omega)).trans hu1
  refine go_istore dLaw_law_815 ?_
  refine go_aload_n dLaw_law_817 rfl ?_
  refine go_virtP dLaw_law_818 ok_mRef_thrown im_mRef_thrown se_mRef_thrown qm_Law_85 hR2.1 (r_thrown hR2) ?_ (hnp := np_mRef_thrown) (hcl := show k + 4 ≤ 601024 from hk) (hsl := show n + 24 ≤ 7293034 from hn)
  refine go_top h02 ?_
  refine go_iload dLaw_law_821 rfl ?_
  refine go_icmp_eq (tgt := 828) dLaw_law_823 (fun c1 => ?_) (fun c1 => ?_)
  · refine go_iload dLaw_law_828 rfl ?_
    refine go_if_ne (tgt := 845) dLaw_law_830 (fun c2 => ?_) (fun c2 => ?_)
    · refine go_goto (tgt := 1289) dLaw_law_845 ?_
      refine go_fg 5 (go_fg 6 ?_)
      exact hK hx2 _ _ g2 A2 ⟨hA1.sm hs2 (by omega), hR2, hr2, iv_pa hv, hS1.cg (fun q h1 => hs2 q (by omega)), hb2, hbx, _, hu2⟩
    · refine go_aload_n dLaw_law_833 rfl ?_
      refine go_iconst (v := 0) dLaw_law_834 (by decide) ?_
      refine go_lald dLaw_law_835 hu2 (vp_in_nI (n := 0) (by omega) (by omega)) rfl ?_
      refine go_iload dLaw_law_836 rfl ?_
      refine go_i2l dLaw_law_838 ?_
      refine go_lcmp dLaw_law_839 ?_
      refine go_if_eq (tgt := 845) dLaw_law_840 (fun c3 => ?_) (fun c3 => ?_)
      · refine go_goto (tgt := 1289) dLaw_law_845 ?_
        refine go_fg 5 (go_fg 6 ?_)
        exact hK hx2 _ _ g2 A2 ⟨hA1.sm hs2 (by omega), hR2, hr2, iv_pa hv, hS1.cg (fun q h1 => hs2 q (by omega)), hb2, hbx, _, hu2⟩
      · exact absurd (lc_e.mpr (hf1 c2)) c3
  · exact absurd rfl c1
set_option maxHeartbeats 4000000 in
theorem l_law_alter {E : pmEv} {hm h : pmH} {d : Bool} {k n b x L i : Nat} {xs : Nat → Int32} {α : aPF} {g : Nat → Int32} {A : Nat → Nat → Int32} {Q : pmA → pmS → Prop} (hI : LI E h b x L xs α g A) (hi : i + 5 ≤ L) (hL : L ≤ 2560) (hk : k + 4 ≤ 601024) (hn : n + 24 ≤ 7293034) (hK : ∀ h' d' α' g' A', LI E h' b x L xs α' g' A' → Go E (mLaw_law, hm, 601024, 7293034) 1289 [some (.ref b), some (.ref x), some (.ref (x + 31)), some (.ref (x + 48)), some (.int (nI i)), none, none] [] (h', none, d') (k + 4) (n + 24) Q) : Go E (mLaw_law, hm, 601024, 7293034) 848 [some (.ref b), some (.ref x), some (.ref (x + 31)), some (.ref (x + 48)), some (.int (nI i)), none, none] [] (h, none, d) k n Q := by
  obtain ⟨hA, hR, hr, hv, hS, hb, hbx, f0, hu⟩ := hI
  refine go_aload_n dLaw_law_848 rfl ?_
  refine go_aload_n dLaw_law_849 rfl ?_
  refine go_iload dLaw_law_850 rfl ?_
  refine go_iconst (v := 1) dLaw_law_852 (by decide) ?_
  refine go_iadd dLaw_law_853 ?_
  refine go_top (y := nI (i + 1)) (by rw [show (1 : Int32) = nI 1 from rfl, nI_add]) ?_
  refine go_ialdT dLaw_law_854 hb (by exact vp_in_nI (by omega) (by omega)) (congrArg _ (nI_clamp (by omega))) ?_
  refine go_aload_n dLaw_law_855 rfl ?_
  refine go_iload dLaw_law_856 rfl ?_
  refine go_iconst (v := 2) dLaw_law_858 (by decide) ?_
  refine go_iadd dLaw_law_859 ?_
  refine go_top (y := nI (i + 2)) (by rw [show (2 : Int32) = nI 2 from rfl, nI_add]) ?_
  refine go_ialdT dLaw_law_860 hb (by exact vp_in_nI (by omega) (by omega)) (congrArg _ (nI_clamp (by omega))) ?_
  refine go_aload_n dLaw_law_861 rfl ?_
  refine go_iload dLaw_law_862 rfl ?_
  refine go_iconst (v := 3) dLaw_law_864 (by decide) ?_
  refine go_iadd dLaw_law_865 ?_
  refine go_top (y := nI (i + 3)) (by rw [show (3 : Int32) = nI 3 from rfl, nI_add]) ?_
  refine go_ialdT dLaw_law_866 hb (by exact vp_in_nI (by omega) (by omega)) (congrArg _ (nI_clamp (by omega))) ?_
  refine go_if_eq (tgt := 874) dLaw_law_867 (fun c1 => ?_) (fun c1 => ?_)
  · refine go_iconst (v := 0) dLaw_law_874 (by decide) ?_
    refine go_aload_n dLaw_law_875 rfl ?_
    refine go_lawS dLaw_law_876 ok_mLaw_alter st_mLaw_alter qm_Law_122 (h_alter (α := α) (a1 := xs (i + 1)) (a2 := xs (i + 2)) (a3 := 0) hA hu (by omega) hS) (show k + 4 ≤ 601024 from hk) (show n + 24 ≤ 7293034 from hn) (fun hx1 d1 f1 hA1 hu1 hf1 hs1 => ?_) (hnp := np_mLaw_alter)
    have hR1 : RfA hx1 (x + 31) g A := hR.cg (fun q h1 h2 => hs1 q (by omega) (by omega))
    have hb1 : hx1 b = some (pmT L xs) := (hs1 b (by omega) (by omega)).trans hb
    have hS1 : SA E hx1 x := hS.cg (fun q h1 => hs1 q (by omega) (by omega))
    refine go_istore dLaw_law_879 ?_
    refine go_aload_n dLaw_law_881 rfl ?_
    refine go_aload_n dLaw_law_882 rfl ?_
    refine go_iload dLaw_law_883 rfl ?_
    refine go_iconst (v := 1) dLaw_law_885 (by decide) ?_
    refine go_iadd dLaw_law_886 ?_
    refine go_top (y := nI (i + 1)) (by rw [show (1 : Int32) = nI 1 from rfl, nI_add]) ?_
    refine go_ialdT dLaw_law_887 hb1 (by exact vp_in_nI (by omega) (by omega)) (congrArg _ (nI_clamp (by omega))) ?_
    refine go_aload_n dLaw_law_888 rfl ?_
    refine go_iload dLaw_law_889 rfl ?_
    refine go_iconst (v := 2) dLaw_law_891 (by decide) ?_
    refine go_iadd dLaw_law_892 ?_
    refine go_top (y := nI (i + 2)) (by rw [show (2 : Int32) = nI 2 from rfl, nI_add]) ?_
    refine go_ialdT dLaw_law_893 hb1 (by exact vp_in_nI (by omega) (by omega)) (congrArg _ (nI_clamp (by omega))) ?_
    refine go_aload_n dLaw_law_894 rfl ?_
    refine go_iload dLaw_law_895 rfl ?_
    refine go_iconst (v := 3) dLaw_law_897 (by decide) ?_
    refine go_iadd dLaw_law_898 ?_
    refine go_top (y := nI (i + 3)) (by rw [show (3 : Int32) = nI 3 from rfl, nI_add]) ?_
    refine go_ialdT dLaw_law_899 hb1 (by exact vp_in_nI (by omega) (by omega)) (congrArg _ (nI_clamp (by omega))) ?_
    refine go_if_eq (tgt := 907) dLaw_law_900 (fun c2 => ?_) (fun c2 => ?_)
    · refine go_iconst (v := 0) dLaw_law_907 (by decide) ?_
      refine go_refR dLaw_law_908 ok_mRef_alter im_mRef_alter se_mRef_alter qm_Law_125 hR1.1 (r_alter hR1 hr hv) rv_alter (show k + 4 ≤ 601024 from hk) (show n + 24 ≤ 7293034 from hn) (fun hx2 d2 g2 A2 hR2 hr2 h02 hs2 => ?_) (hnp := np_mRef_alter)
      have hb2 : hx2 b = some (pmT L xs) := (hs2 b (by omega)).trans hb1
      have hu2 := (hs2 (x + 48) (by omega)).trans hu1
      refine go_istore dLaw_law_911 ?_
      refine go_aload_n dLaw_law_913 rfl ?_
      refine go_virtP dLaw_law_914 ok_mRef_thrown im_mRef_thrown se_mRef_thrown qm_Law_85 hR2.1 (r_thrown hR2) ?_ (hnp := np_mRef_thrown) (hcl := show k + 4 ≤ 601024 from hk) (hsl := show n + 24 ≤ 7293034 from hn)
      refine go_top h02 ?_
      refine go_iload dLaw_law_917 rfl ?_
      refine go_icmp_eq (tgt := 924) dLaw_law_919 (fun c3 => ?_) (fun c3 => ?_)
      · refine go_iload dLaw_law_924 rfl ?_
        refine go_if_ne (tgt := 941) dLaw_law_926 (fun c4 => ?_) (fun c4 => ?_)
        · refine go_goto (tgt := 1289) dLaw_law_941 ?_
          refine go_fg 5 (go_fg 6 ?_)
          exact hK hx2 _ _ g2 A2 ⟨hA1.sm hs2 (by omega), hR2, hr2, iv_al hv, hS1.cg (fun q h1 => hs2 q (by omega)), hb2, hbx, _, hu2⟩
        · refine go_aload_n dLaw_law_929 rfl ?_
          refine go_iconst (v := 0) dLaw_law_930 (by decide) ?_
          refine go_lald dLaw_law_931 hu2 (vp_in_nI (n := 0) (by omega) (by omega)) rfl ?_
          refine go_iload dLaw_law_932 rfl ?_
          refine go_i2l dLaw_law_934 ?_
          refine go_lcmp dLaw_law_935 ?_
          refine go_if_eq (tgt := 941) dLaw_law_936 (fun c5 => ?_) (fun c5 => ?_)
          · refine go_goto (tgt := 1289) dLaw_law_941 ?_
            refine go_fg 5 (go_fg 6 ?_)
            exact hK hx2 _ _ g2 A2 ⟨hA1.sm hs2 (by omega), hR2, hr2, iv_al hv, hS1.cg (fun q h1 => hs2 q (by omega)), hb2, hbx, _, hu2⟩
          · exact absurd (lc_e.mpr (hf1 c4)) c5
      · exact absurd rfl c3
    · exact absurd c1 c2
  · refine go_iconst (v := 1) dLaw_law_870 (by decide) ?_
    refine go_goto (tgt := 875) dLaw_law_871 ?_
    refine go_aload_n dLaw_law_875 rfl ?_
    refine go_lawS dLaw_law_876 ok_mLaw_alter st_mLaw_alter qm_Law_122 (h_alter (α := α) (a1 := xs (i + 1)) (a2 := xs (i + 2)) (a3 := 1) hA hu (by omega) hS) (show k + 4 ≤ 601024 from hk) (show n + 24 ≤ 7293034 from hn) (fun hx1 d1 f1 hA1 hu1 hf1 hs1 => ?_) (hnp := np_mLaw_alter)
    have hR1 : RfA hx1 (x + 31) g A := hR.cg (fun q h1 h2 => hs1 q (by omega) (by omega))
    have hb1 : hx1 b = some (pmT L xs) := (hs1 b (by omega) (by omega)).trans hb
    have hS1 : SA E hx1 x := hS.cg (fun q h1 => hs1 q (by omega) (by omega))
    refine go_istore dLaw_law_879 ?_
    refine go_aload_n dLaw_law_881 rfl ?_
    refine go_aload_n dLaw_law_882 rfl ?_
    refine go_iload dLaw_law_883 rfl ?_
    refine go_iconst (v := 1) dLaw_law_885 (by decide) ?_
    refine go_iadd dLaw_law_886 ?_
    refine go_top (y := nI (i + 1)) (by rw [show (1 : Int32) = nI 1 from rfl, nI_add]) ?_
    refine go_ialdT dLaw_law_887 hb1 (by exact vp_in_nI (by omega) (by omega)) (congrArg _ (nI_clamp (by omega))) ?_
    refine go_aload_n dLaw_law_888 rfl ?_
    refine go_iload dLaw_law_889 rfl ?_
    refine go_iconst (v := 2) dLaw_law_891 (by decide) ?_
    refine go_iadd dLaw_law_892 ?_
    refine go_top (y := nI (i + 2)) (by rw [show (2 : Int32) = nI 2 from rfl, nI_add]) ?_
    refine go_ialdT dLaw_law_893 hb1 (by exact vp_in_nI (by omega) (by omega)) (congrArg _ (nI_clamp (by omega))) ?_
    refine go_aload_n dLaw_law_894 rfl ?_
    refine go_iload dLaw_law_895 rfl ?_
    refine go_iconst (v := 3) dLaw_law_897 (by decide) ?_
    refine go_iadd dLaw_law_898 ?_
    refine go_top (y := nI (i + 3)) (by rw [show (3 : Int32) = nI 3 from rfl, nI_add]) ?_
    refine go_ialdT dLaw_law_899 hb1 (by exact vp_in_nI (by omega) (by omega)) (congrArg _ (nI_clamp (by omega))) ?_
    refine go_if_eq (tgt := 907) dLaw_law_900 (fun c2 => ?_) (fun c2 => ?_)
    · exact absurd c2 c1
    · refine go_iconst (v := 1) dLaw_law_903 (by decide) ?_
      refine go_goto (tgt := 908) dLaw_law_904 ?_
      refine go_refR dLaw_law_908 ok_mRef_alter im_mRef_alter se_mRef_alter qm_Law_125 hR1.1 (r_alter hR1 hr hv) rv_alter (show k + 4 ≤ 601024 from hk) (show n + 24 ≤ 7293034 from hn) (fun hx2 d2 g2 A2 hR2 hr2 h02 hs2 => ?_) (hnp := np_mRef_alter)
      have hb2 : hx2 b = some (pmT L xs) := (hs2 b (by omega)).trans hb1
      have hu2 := (hs2 (x + 48) (by omega)).trans hu1
      refine go_istore dLaw_law_911 ?_
      refine go_aload_n dLaw_law_913 rfl ?_
      refine go_virtP dLaw_law_914 ok_mRef_thrown im_mRef_thrown se_mRef_thrown qm_Law_85 hR2.1 (r_thrown hR2) ?_ (hnp := np_mRef_thrown) (hcl := show k + 4 ≤ 601024 from hk) (hsl := show n + 24 ≤ 7293034 from hn)
      refine go_top h02 ?_
      refine go_iload dLaw_law_917 rfl ?_
      refine go_icmp_eq (tgt := 924) dLaw_law_919 (fun c3 => ?_) (fun c3 => ?_)
      · refine go_iload dLaw_law_924 rfl ?_
        refine go_if_ne (tgt := 941) dLaw_law_926 (fun c4 => ?_) (fun c4 => ?_)
        · refine go_goto (tgt := 1289) dLaw_law_941 ?_
          refine go_fg 5 (go_fg 6 ?_)
          exact hK hx2 _ _ g2 A2 ⟨hA1.sm hs2 (by omega), hR2, hr2, iv_al hv, hS1.cg (fun q h1 => hs2 q (by omega)), hb2, hbx, _, hu2⟩
        · refine go_aload_n dLaw_law_929 rfl ?_
          refine go_iconst (v := 0) dLaw_law_930 (by decide) ?_
          refine go_lald dLaw_law_931 hu2 (vp_in_nI (n := 0) (by omega) (by omega)) rfl ?_
          refine go_iload dLaw_law_932 rfl ?_
          refine go_i2l dLaw_law_934 ?_
          refine go_lcmp dLaw_law_935 ?_
          refine go_if_eq (tgt := 941) dLaw_law_936 (fun c5 => ?_) (fun c5 => ?_)
          · refine go_goto (tgt := 1289) dLaw_law_941 ?_
            refine go_fg 5 (go_fg 6 ?_)
            exact hK hx2 _ _ g2 A2 ⟨hA1.sm hs2 (by omega), hR2, hr2, iv_al hv, hS1.cg (fun q h1 => hs2 q (by omega)), hb2, hbx, _, hu2⟩
          · exact absurd (lc_e.mpr (hf1 c4)) c5
      · exact absurd rfl c3
set_option maxHeartbeats 4000000 in
theorem l_law_read {E : pmEv} {hm h : pmH} {d : Bool} {k n b x L i : Nat} {xs : Nat → Int32} {α : aPF} {g : Nat → Int32} {A : Nat → Nat → Int32} {Q : pmA → pmS → Prop} (hI : LI E h b x L xs α g A) (hi : i + 5 ≤ L) (hL : L ≤ 2560) (hk : k + 4 ≤ 601024) (hn : n + 24 ≤ 7293034) (hK : ∀ h' d' α' g' A', LI E h' b x L xs α' g' A' → Go E (mLaw_law, hm, 601024, 7293034) 1289 [some (.ref b), some (.ref x), some (.ref (x + 31)), some (.ref (x + 48)), some (.int (nI i)), none, none] [] (h', none, d') (k + 4) (n + 24) Q) : Go E (mLaw_law, hm, 601024, 7293034) 944 [some (.ref b), some (.ref x), some (.ref (x + 31)), some (.ref (x + 48)), some (.int (nI i)), none, none] [] (h, none, d) k n Q := by
  obtain ⟨hA, hR, hr, hv, hS, hb, hbx, f0, hu⟩ := hI
  refine go_aload_n dLaw_law_944 rfl ?_
  refine go_virtRd dLaw_law_945 ok_mPF_read im_mPF_read se_mPF_read qm_Law_126 hA.1 (o_read hA hS) (show k + 4 ≤ 601024 from hk) (show n + 24 ≤ 7293034 from hn) (fun hx1 d1 S1 hE1 hA1 hs1 => ?_) (hnp := np_mPF_read)
  have hR1 : RfA hx1 (x + 31) g A := hR.cg (fun q h1 h2 => hs1 q (by omega))
  have hb1 : hx1 b = some (pmT L xs) := (hs1 b (by omega)).trans hb
  have hS1 : SA E hx1 x := hS.cg (fun q h1 => hs1 q (by omega))
  have hu1 : hx1 (x + 48) = some (pmJ 1 f0) := (hs1 _ (by omega)).trans hu
  refine go_aload_n dLaw_law_948 rfl ?_
  refine go_virtX dLaw_law_949 ok_mRef_read im_mRef_read se_mRef_read qm_Law_129 hR1.1 (r_read (S := α.2.2.2) (o := α.1) hr.1 hr.2.1 hr.2.2.1 hv.2.2.1.1 hv.2.2.1.2 hR1) (fun hx2 d2 q2 => ?_) (hnp := np_mRef_read) (hcl := show k + 4 ≤ 601024 from hk) (hsl := show n + 24 ≤ 7293034 from hn)
  obtain ⟨⟨g2, A2, hR2, hb9, h289, h149, hw9⟩, hs2⟩ := q2
  have hb2 : hx2 b = some (pmT L xs) := (hs2 b (by omega)).trans hb1
  have hu2 := (hs2 (x + 48) (by omega)).trans hu1
  refine go_icmp_eq (tgt := 1289) dLaw_law_952 (fun c1 => ?_) (fun c1 => ?_)
  · exact hK hx2 _ _ g2 A2 ⟨hA1.sm hs2 (by omega), hR2, rd_RR hE1 hb9 h289 h149 hw9, rd_Iv hv hE1 hw9, hS1.cg (fun q h1 => hs2 q (by omega)), hb2, hbx, _, hu2⟩
  · exact absurd rfl c1
set_option maxHeartbeats 4000000 in
theorem l_law_at {E : pmEv} {hm h : pmH} {d : Bool} {k n b x L i : Nat} {xs : Nat → Int32} {α : aPF} {g : Nat → Int32} {A : Nat → Nat → Int32} {Q : pmA → pmS → Prop} (hI : LI E h b x L xs α g A) (hi : i + 5 ≤ L) (hL : L ≤ 2560) (hk : k + 4 ≤ 601024) (hn : n + 24 ≤ 7293034) (hK : ∀ h' d' α' g' A', LI E h' b x L xs α' g' A' → Go E (mLaw_law, hm, 601024, 7293034) 1289 [some (.ref b), some (.ref x), some (.ref (x + 31)), some (.ref (x + 48)), some (.int (nI i)), none, none] [] (h', none, d') (k + 4) (n + 24) Q) : Go E (mLaw_law, hm, 601024, 7293034) 957 [some (.ref b), some (.ref x), some (.ref (x + 31)), some (.ref (x + 48)), some (.int (nI i)), none, none] [] (h, none, d) k n Q := by
  obtain ⟨hA, hR, hr, hv, hS, hb, hbx, f0, hu⟩ := hI
  refine go_aload_n dLaw_law_957 rfl ?_
  refine go_aload_n dLaw_law_958 rfl ?_
  refine go_iload dLaw_law_959 rfl ?_
  refine go_iconst (v := 1) dLaw_law_961 (by decide) ?_
  refine go_iadd dLaw_law_962 ?_
  refine go_top (y := nI (i + 1)) (by rw [show (1 : Int32) = nI 1 from rfl, nI_add]) ?_
  refine go_ialdT dLaw_law_963 hb (by exact vp_in_nI (by omega) (by omega)) (congrArg _ (nI_clamp (by omega))) ?_
  refine go_aload_n dLaw_law_964 rfl ?_
  refine go_iload dLaw_law_965 rfl ?_
  refine go_iconst (v := 2) dLaw_law_967 (by decide) ?_
  refine go_iadd dLaw_law_968 ?_
  refine go_top (y := nI (i + 2)) (by rw [show (2 : Int32) = nI 2 from rfl, nI_add]) ?_
  refine go_ialdT dLaw_law_969 hb (by exact vp_in_nI (by omega) (by omega)) (congrArg _ (nI_clamp (by omega))) ?_
  refine go_aload_n dLaw_law_970 rfl ?_
  refine go_iload dLaw_law_971 rfl ?_
  refine go_iconst (v := 3) dLaw_law_973 (by decide) ?_
  refine go_iadd dLaw_law_974 ?_
  refine go_top (y := nI (i + 3)) (by rw [show (3 : Int32) = nI 3 from rfl, nI_add]) ?_
  refine go_ialdT dLaw_law_975 hb (by exact vp_in_nI (by omega) (by omega)) (congrArg _ (nI_clamp (by omega))) ?_
  refine go_aload_n dLaw_law_976 rfl ?_
  refine go_lawS dLaw_law_977 ok_mLaw_at st_mLaw_at qm_Law_130 (h_at (α := α) (a1 := xs (i + 1)) (a2 := xs (i + 2)) (a3 := xs (i + 3)) hA hu (by omega) hS) (show k + 4 ≤ 601024 from hk) (show n + 24 ≤ 7293034 from hn) (fun hx1 d1 f1 hA1 hu1 hf1 hs1 => ?_) (hnp := np_mLaw_at)
  have hR1 : RfA hx1 (x + 31) g A := hR.cg (fun q h1 h2 => hs1 q (by omega) (by omega))
  have hb1 : hx1 b = some (pmT L xs) := (hs1 b (by omega) (by omega)).trans hb
  have hS1 : SA E hx1 x := hS.cg (fun q h1 => hs1 q (by omega) (by omega))
  refine go_istore dLaw_law_980 ?_
  refine go_aload_n dLaw_law_982 rfl ?_
  refine go_aload_n dLaw_law_983 rfl ?_
  refine go_iload dLaw_law_984 rfl ?_
  refine go_iconst (v := 1) dLaw_law_986 (by decide) ?_
  refine go_iadd dLaw_law_987 ?_
  refine go_top (y := nI (i + 1)) (by rw [show (1 : Int32) = nI 1 from rfl, nI_add]) ?_
  refine go_ialdT dLaw_law_988 hb1 (by exact vp_in_nI (by omega) (by omega)) (congrArg _ (nI_clamp (by omega))) ?_
  refine go_aload_n dLaw_law_989 rfl ?_
  refine go_iload dLaw_law_990 rfl ?_
  refine go_iconst (v := 2) dLaw_law_992 (by decide) ?_
  refine go_iadd dLaw_law_993 ?_
  refine go_top (y := nI (i + 2)) (by rw [show (2 : Int32) = nI 2 from rfl, nI_add]) ?_
  refine go_ialdT dLaw_law_994 hb1 (by exact vp_in_nI (by omega) (by omega)) (congrArg _ (nI_clamp (by omega))) ?_
  refine go_aload_n dLaw_law_995 rfl ?_
  refine go_iload dLaw_law_996 rfl ?_
  refine go_iconst (v := 3) dLaw_law_998 (by decide) ?_
  refine go_iadd dLaw_law_999 ?_
  refine go_top (y := nI (i + 3)) (by rw [show (3 : Int32) = nI 3 from rfl, nI_add]) ?_
  refine go_ialdT dLaw_law_1000 hb1 (by exact vp_in_nI (by omega) (by omega)) (congrArg _ (nI_clamp (by omega))) ?_
  refine go_refR dLaw_law_1001 ok_mRef_at im_mRef_at se_mRef_at qm_Law_133 hR1.1 (r_at hR1 hr hv) rv_at (show k + 4 ≤ 601024 from hk) (show n + 24 ≤ 7293034 from hn) (fun hx2 d2 g2 A2 hR2 hr2 h02 hs2 => ?_) (hnp := np_mRef_at)
  have hb2 : hx2 b = some (pmT L xs) := (hs2 b (by omega)).trans hb1
  have hu2 := (hs2 (x + 48) (by omega)).trans hu1
  refine go_istore dLaw_law_1004 ?_
  refine go_aload_n dLaw_law_1006 rfl ?_
  refine go_virtP dLaw_law_1007 ok_mRef_thrown im_mRef_thrown se_mRef_thrown qm_Law_85 hR2.1 (r_thrown hR2) ?_ (hnp := np_mRef_thrown) (hcl := show k + 4 ≤ 601024 from hk) (hsl := show n + 24 ≤ 7293034 from hn)
  refine go_top h02 ?_
  refine go_iload dLaw_law_1010 rfl ?_
  refine go_icmp_eq (tgt := 1017) dLaw_law_1012 (fun c1 => ?_) (fun c1 => ?_)
  · refine go_iload dLaw_law_1017 rfl ?_
    refine go_if_ne (tgt := 1034) dLaw_law_1019 (fun c2 => ?_) (fun c2 => ?_)
    · refine go_goto (tgt := 1289) dLaw_law_1034 ?_
      refine go_fg 5 (go_fg 6 ?_)
      exact hK hx2 _ _ g2 A2 ⟨hA1.sm hs2 (by omega), hR2, hr2, iv_at hv, hS1.cg (fun q h1 => hs2 q (by omega)), hb2, hbx, _, hu2⟩
    · refine go_aload_n dLaw_law_1022 rfl ?_
      refine go_iconst (v := 0) dLaw_law_1023 (by decide) ?_
      refine go_lald dLaw_law_1024 hu2 (vp_in_nI (n := 0) (by omega) (by omega)) rfl ?_
      refine go_iload dLaw_law_1025 rfl ?_
      refine go_i2l dLaw_law_1027 ?_
      refine go_lcmp dLaw_law_1028 ?_
      refine go_if_eq (tgt := 1034) dLaw_law_1029 (fun c3 => ?_) (fun c3 => ?_)
      · refine go_goto (tgt := 1289) dLaw_law_1034 ?_
        refine go_fg 5 (go_fg 6 ?_)
        exact hK hx2 _ _ g2 A2 ⟨hA1.sm hs2 (by omega), hR2, hr2, iv_at hv, hS1.cg (fun q h1 => hs2 q (by omega)), hb2, hbx, _, hu2⟩
      · exact absurd (lc_e.mpr (hf1 c2)) c3
  · exact absurd rfl c1
set_option maxHeartbeats 4000000 in
theorem l_law_found {E : pmEv} {hm h : pmH} {d : Bool} {k n b x L i : Nat} {xs : Nat → Int32} {α : aPF} {g : Nat → Int32} {A : Nat → Nat → Int32} {Q : pmA → pmS → Prop} (hI : LI E h b x L xs α g A) (hi : i + 5 ≤ L) (hL : L ≤ 2560) (hk : k + 4 ≤ 601024) (hn : n + 24 ≤ 7293034) (hK : ∀ h' d' α' g' A', LI E h' b x L xs α' g' A' → Go E (mLaw_law, hm, 601024, 7293034) 1289 [some (.ref b), some (.ref x), some (.ref (x + 31)), some (.ref (x + 48)), some (.int (nI i)), none, none] [] (h', none, d') (k + 4) (n + 24) Q) : Go E (mLaw_law, hm, 601024, 7293034) 1037 [some (.ref b), some (.ref x), some (.ref (x + 31)), some (.ref (x + 48)), some (.int (nI i)), none, none] [] (h, none, d) k n Q := by
  obtain ⟨hA, hR, hr, hv, hS, hb, hbx, f0, hu⟩ := hI
  refine go_aload_n dLaw_law_1037 rfl ?_
  refine go_aload_n dLaw_law_1038 rfl ?_
  refine go_iload dLaw_law_1039 rfl ?_
  refine go_iconst (v := 1) dLaw_law_1041 (by decide) ?_
  refine go_iadd dLaw_law_1042 ?_
  refine go_top (y := nI (i + 1)) (by rw [show (1 : Int32) = nI 1 from rfl, nI_add]) ?_
  refine go_ialdT dLaw_law_1043 hb (by exact vp_in_nI (by omega) (by omega)) (congrArg _ (nI_clamp (by omega))) ?_
  refine go_aload_n dLaw_law_1044 rfl ?_
  refine go_lawS dLaw_law_1045 ok_mLaw_found st_mLaw_found qm_Law_134 (h_found (α := α) (a1 := xs (i + 1)) hA hu (by omega) hS) (show k + 4 ≤ 601024 from hk) (show n + 24 ≤ 7293034 from hn) (fun hx1 d1 f1 hA1 hu1 hf1 hs1 => ?_) (hnp := np_mLaw_found)
  have hR1 : RfA hx1 (x + 31) g A := hR.cg (fun q h1 h2 => hs1 q (by omega) (by omega))
  have hb1 : hx1 b = some (pmT L xs) := (hs1 b (by omega) (by omega)).trans hb
  have hS1 : SA E hx1 x := hS.cg (fun q h1 => hs1 q (by omega) (by omega))
  refine go_istore dLaw_law_1048 ?_
  refine go_aload_n dLaw_law_1050 rfl ?_
  refine go_aload_n dLaw_law_1051 rfl ?_
  refine go_iload dLaw_law_1052 rfl ?_
  refine go_iconst (v := 1) dLaw_law_1054 (by decide) ?_
  refine go_iadd dLaw_law_1055 ?_
  refine go_top (y := nI (i + 1)) (by rw [show (1 : Int32) = nI 1 from rfl, nI_add]) ?_
  refine go_ialdT dLaw_law_1056 hb1 (by exact vp_in_nI (by omega) (by omega)) (congrArg _ (nI_clamp (by omega))) ?_
  refine go_refR dLaw_law_1057 ok_mRef_found im_mRef_found se_mRef_found qm_Law_136 hR1.1 (r_found hR1 hr hv) rv_found (show k + 4 ≤ 601024 from hk) (show n + 24 ≤ 7293034 from hn) (fun hx2 d2 g2 A2 hR2 hr2 h02 hs2 => ?_) (hnp := np_mRef_found)
  have hb2 : hx2 b = some (pmT L xs) := (hs2 b (by omega)).trans hb1
  have hu2 := (hs2 (x + 48) (by omega)).trans hu1
  refine go_istore dLaw_law_1060 ?_
  refine go_aload_n dLaw_law_1062 rfl ?_
  refine go_virtP dLaw_law_1063 ok_mRef_thrown im_mRef_thrown se_mRef_thrown qm_Law_85 hR2.1 (r_thrown hR2) ?_ (hnp := np_mRef_thrown) (hcl := show k + 4 ≤ 601024 from hk) (hsl := show n + 24 ≤ 7293034 from hn)
  refine go_top h02 ?_
  refine go_iload dLaw_law_1066 rfl ?_
  refine go_icmp_eq (tgt := 1073) dLaw_law_1068 (fun c1 => ?_) (fun c1 => ?_)
  · refine go_iload dLaw_law_1073 rfl ?_
    refine go_if_ne (tgt := 1090) dLaw_law_1075 (fun c2 => ?_) (fun c2 => ?_)
    · refine go_goto (tgt := 1289) dLaw_law_1090 ?_
      refine go_fg 5 (go_fg 6 ?_)
      exact hK hx2 _ _ g2 A2 ⟨hA1.sm hs2 (by omega), hR2, hr2, iv_fo hv, hS1.cg (fun q h1 => hs2 q (by omega)), hb2, hbx, _, hu2⟩
    · refine go_aload_n dLaw_law_1078 rfl ?_
      refine go_iconst (v := 0) dLaw_law_1079 (by decide) ?_
      refine go_lald dLaw_law_1080 hu2 (vp_in_nI (n := 0) (by omega) (by omega)) rfl ?_
      refine go_iload dLaw_law_1081 rfl ?_
      refine go_i2l dLaw_law_1083 ?_
      refine go_lcmp dLaw_law_1084 ?_
      refine go_if_eq (tgt := 1090) dLaw_law_1085 (fun c3 => ?_) (fun c3 => ?_)
      · refine go_goto (tgt := 1289) dLaw_law_1090 ?_
        refine go_fg 5 (go_fg 6 ?_)
        exact hK hx2 _ _ g2 A2 ⟨hA1.sm hs2 (by omega), hR2, hr2, iv_fo hv, hS1.cg (fun q h1 => hs2 q (by omega)), hb2, hbx, _, hu2⟩
      · exact absurd (lc_e.mpr (hf1 c2)) c3
  · exact absurd rfl c1
set_option maxHeartbeats 4000000 in
theorem l_law_entry {E : pmEv} {hm h : pmH} {d : Bool} {k n b x L i : Nat} {xs : Nat → Int32} {α : aPF} {g : Nat → Int32} {A : Nat → Nat → Int32} {Q : pmA → pmS → Prop} (hI : LI E h b x L xs α g A) (hi : i + 5 ≤ L) (hL : L ≤ 2560) (hk : k + 4 ≤ 601024) (hn : n + 24 ≤ 7293034) (hK : ∀ h' d' α' g' A', LI E h' b x L xs α' g' A' → Go E (mLaw_law, hm, 601024, 7293034) 1289 [some (.ref b), some (.ref x), some (.ref (x + 31)), some (.ref (x + 48)), some (.int (nI i)), none, none] [] (h', none, d') (k + 4) (n + 24) Q) : Go E (mLaw_law, hm, 601024, 7293034) 1093 [some (.ref b), some (.ref x), some (.ref (x + 31)), some (.ref (x + 48)), some (.int (nI i)), none, none] [] (h, none, d) k n Q := by
  obtain ⟨hA, hR, hr, hv, hS, hb, hbx, f0, hu⟩ := hI
  refine go_aload_n dLaw_law_1093 rfl ?_
  refine go_aload_n dLaw_law_1094 rfl ?_
  refine go_iload dLaw_law_1095 rfl ?_
  refine go_iconst (v := 1) dLaw_law_1097 (by decide) ?_
  refine go_iadd dLaw_law_1098 ?_
  refine go_top (y := nI (i + 1)) (by rw [show (1 : Int32) = nI 1 from rfl, nI_add]) ?_
  refine go_ialdT dLaw_law_1099 hb (by exact vp_in_nI (by omega) (by omega)) (congrArg _ (nI_clamp (by omega))) ?_
  refine go_aload_n dLaw_law_1100 rfl ?_
  refine go_iload dLaw_law_1101 rfl ?_
  refine go_iconst (v := 2) dLaw_law_1103 (by decide) ?_
  refine go_iadd dLaw_law_1104 ?_
  refine go_top (y := nI (i + 2)) (by rw [show (2 : Int32) = nI 2 from rfl, nI_add]) ?_
  refine go_ialdT dLaw_law_1105 hb (by exact vp_in_nI (by omega) (by omega)) (congrArg _ (nI_clamp (by omega))) ?_
  refine go_aload_n dLaw_law_1106 rfl ?_
  refine go_lawS dLaw_law_1107 ok_mLaw_entry st_mLaw_entry qm_Law_137 (h_entry (α := α) (a1 := xs (i + 1)) (a2 := xs (i + 2)) hA hu (by omega) hS) (show k + 4 ≤ 601024 from hk) (show n + 24 ≤ 7293034 from hn) (fun hx1 d1 f1 hA1 hu1 hf1 hs1 => ?_) (hnp := np_mLaw_entry)
  have hR1 : RfA hx1 (x + 31) g A := hR.cg (fun q h1 h2 => hs1 q (by omega) (by omega))
  have hb1 : hx1 b = some (pmT L xs) := (hs1 b (by omega) (by omega)).trans hb
  have hS1 : SA E hx1 x := hS.cg (fun q h1 => hs1 q (by omega) (by omega))
  refine go_istore dLaw_law_1110 ?_
  refine go_aload_n dLaw_law_1112 rfl ?_
  refine go_aload_n dLaw_law_1113 rfl ?_
  refine go_iload dLaw_law_1114 rfl ?_
  refine go_iconst (v := 1) dLaw_law_1116 (by decide) ?_
  refine go_iadd dLaw_law_1117 ?_
  refine go_top (y := nI (i + 1)) (by rw [show (1 : Int32) = nI 1 from rfl, nI_add]) ?_
  refine go_ialdT dLaw_law_1118 hb1 (by exact vp_in_nI (by omega) (by omega)) (congrArg _ (nI_clamp (by omega))) ?_
  refine go_aload_n dLaw_law_1119 rfl ?_
  refine go_iload dLaw_law_1120 rfl ?_
  refine go_iconst (v := 2) dLaw_law_1122 (by decide) ?_
  refine go_iadd dLaw_law_1123 ?_
  refine go_top (y := nI (i + 2)) (by rw [show (2 : Int32) = nI 2 from rfl, nI_add]) ?_
  refine go_ialdT dLaw_law_1124 hb1 (by exact vp_in_nI (by omega) (by omega)) (congrArg _ (nI_clamp (by omega))) ?_
  refine go_refR dLaw_law_1125 ok_mRef_entry im_mRef_entry se_mRef_entry qm_Law_139 hR1.1 (r_entry hR1 hr hv) rv_entry (show k + 4 ≤ 601024 from hk) (show n + 24 ≤ 7293034 from hn) (fun hx2 d2 g2 A2 hR2 hr2 h02 hs2 => ?_) (hnp := np_mRef_entry)
  have hb2 : hx2 b = some (pmT L xs) := (hs2 b (by omega)).trans hb1
  have hu2 := (hs2 (x + 48) (by omega)).trans hu1
  refine go_istore dLaw_law_1128 ?_
  refine go_aload_n dLaw_law_1130 rfl ?_
  refine go_virtP dLaw_law_1131 ok_mRef_thrown im_mRef_thrown se_mRef_thrown qm_Law_85 hR2.1 (r_thrown hR2) ?_ (hnp := np_mRef_thrown) (hcl := show k + 4 ≤ 601024 from hk) (hsl := show n + 24 ≤ 7293034 from hn)
  refine go_top h02 ?_
  refine go_iload dLaw_law_1134 rfl ?_
  refine go_icmp_eq (tgt := 1141) dLaw_law_1136 (fun c1 => ?_) (fun c1 => ?_)
  · refine go_iload dLaw_law_1141 rfl ?_
    refine go_if_ne (tgt := 1158) dLaw_law_1143 (fun c2 => ?_) (fun c2 => ?_)
    · refine go_goto (tgt := 1289) dLaw_law_1158 ?_
      refine go_fg 5 (go_fg 6 ?_)
      exact hK hx2 _ _ g2 A2 ⟨hA1.sm hs2 (by omega), hR2, hr2, iv_ey hv, hS1.cg (fun q h1 => hs2 q (by omega)), hb2, hbx, _, hu2⟩
    · refine go_aload_n dLaw_law_1146 rfl ?_
      refine go_iconst (v := 0) dLaw_law_1147 (by decide) ?_
      refine go_lald dLaw_law_1148 hu2 (vp_in_nI (n := 0) (by omega) (by omega)) rfl ?_
      refine go_iload dLaw_law_1149 rfl ?_
      refine go_i2l dLaw_law_1151 ?_
      refine go_lcmp dLaw_law_1152 ?_
      refine go_if_eq (tgt := 1158) dLaw_law_1153 (fun c3 => ?_) (fun c3 => ?_)
      · refine go_goto (tgt := 1289) dLaw_law_1158 ?_
        refine go_fg 5 (go_fg 6 ?_)
        exact hK hx2 _ _ g2 A2 ⟨hA1.sm hs2 (by omega), hR2, hr2, iv_ey hv, hS1.cg (fun q h1 => hs2 q (by omega)), hb2, hbx, _, hu2⟩
      · exact absurd (lc_e.mpr (hf1 c2)) c3
  · exact absurd rfl c1
set_option maxHeartbeats 4000000 in
theorem l_law_unknown {E : pmEv} {hm h : pmH} {d : Bool} {k n b x L i : Nat} {xs : Nat → Int32} {α : aPF} {g : Nat → Int32} {A : Nat → Nat → Int32} {Q : pmA → pmS → Prop} (hI : LI E h b x L xs α g A) (hi : i + 5 ≤ L) (hL : L ≤ 2560) (hk : k + 4 ≤ 601024) (hn : n + 24 ≤ 7293034) (hK : ∀ h' d' α' g' A', LI E h' b x L xs α' g' A' → Go E (mLaw_law, hm, 601024, 7293034) 1289 [some (.ref b), some (.ref x), some (.ref (x + 31)), some (.ref (x + 48)), some (.int (nI i)), none, none] [] (h', none, d') (k + 4) (n + 24) Q) : Go E (mLaw_law, hm, 601024, 7293034) 1161 [some (.ref b), some (.ref x), some (.ref (x + 31)), some (.ref (x + 48)), some (.int (nI i)), none, none] [] (h, none, d) k n Q := by
  obtain ⟨hA, hR, hr, hv, hS, hb, hbx, f0, hu⟩ := hI
  refine go_aload_n dLaw_law_1161 rfl ?_
  refine go_aload_n dLaw_law_1162 rfl ?_
  refine go_iload dLaw_law_1163 rfl ?_
  refine go_iconst (v := 1) dLaw_law_1165 (by decide) ?_
  refine go_iadd dLaw_law_1166 ?_
  refine go_top (y := nI (i + 1)) (by rw [show (1 : Int32) = nI 1 from rfl, nI_add]) ?_
  refine go_ialdT dLaw_law_1167 hb (by exact vp_in_nI (by omega) (by omega)) (congrArg _ (nI_clamp (by omega))) ?_
  refine go_aload_n dLaw_law_1168 rfl ?_
  refine go_iload dLaw_law_1169 rfl ?_
  refine go_iconst (v := 2) dLaw_law_1171 (by decide) ?_
  refine go_iadd dLaw_law_1172 ?_
  refine go_top (y := nI (i + 2)) (by rw [show (2 : Int32) = nI 2 from rfl, nI_add]) ?_
  refine go_ialdT dLaw_law_1173 hb (by exact vp_in_nI (by omega) (by omega)) (congrArg _ (nI_clamp (by omega))) ?_
  refine go_aload_n dLaw_law_1174 rfl ?_
  refine go_lawS dLaw_law_1175 ok_mLaw_unknown st_mLaw_unknown qm_Law_140 (h_unknown (α := α) (a1 := xs (i + 1)) (a2 := xs (i + 2)) hA hu (by omega) hS) (show k + 4 ≤ 601024 from hk) (show n + 24 ≤ 7293034 from hn) (fun hx1 d1 f1 hA1 hu1 hf1 hs1 => ?_) (hnp := np_mLaw_unknown)
  have hR1 : RfA hx1 (x + 31) g A := hR.cg (fun q h1 h2 => hs1 q (by omega) (by omega))
  have hb1 : hx1 b = some (pmT L xs) := (hs1 b (by omega) (by omega)).trans hb
  have hS1 : SA E hx1 x := hS.cg (fun q h1 => hs1 q (by omega) (by omega))
  refine go_istore dLaw_law_1178 ?_
  refine go_aload_n dLaw_law_1180 rfl ?_
  refine go_aload_n dLaw_law_1181 rfl ?_
  refine go_iload dLaw_law_1182 rfl ?_
  refine go_iconst (v := 1) dLaw_law_1184 (by decide) ?_
  refine go_iadd dLaw_law_1185 ?_
  refine go_top (y := nI (i + 1)) (by rw [show (1 : Int32) = nI 1 from rfl, nI_add]) ?_
  refine go_ialdT dLaw_law_1186 hb1 (by exact vp_in_nI (by omega) (by omega)) (congrArg _ (nI_clamp (by omega))) ?_
  refine go_aload_n dLaw_law_1187 rfl ?_
  refine go_iload dLaw_law_1188 rfl ?_
  refine go_iconst (v := 2) dLaw_law_1190 (by decide) ?_
  refine go_iadd dLaw_law_1191 ?_
  refine go_top (y := nI (i + 2)) (by rw [show (2 : Int32) = nI 2 from rfl, nI_add]) ?_
  refine go_ialdT dLaw_law_1192 hb1 (by exact vp_in_nI (by omega) (by omega)) (congrArg _ (nI_clamp (by omega))) ?_
  refine go_refR dLaw_law_1193 ok_mRef_unknown im_mRef_unknown se_mRef_unknown qm_Law_142 hR1.1 (r_unknown hR1 hr hv) rv_unknown (show k + 4 ≤ 601024 from hk) (show n + 24 ≤ 7293034 from hn) (fun hx2 d2 g2 A2 hR2 hr2 h02 hs2 => ?_) (hnp := np_mRef_unknown)
  have hb2 : hx2 b = some (pmT L xs) := (hs2 b (by omega)).trans hb1
  have hu2 := (hs2 (x + 48) (by omega)).trans hu1
  refine go_istore dLaw_law_1196 ?_
  refine go_aload_n dLaw_law_1198 rfl ?_
  refine go_virtP dLaw_law_1199 ok_mRef_thrown im_mRef_thrown se_mRef_thrown qm_Law_85 hR2.1 (r_thrown hR2) ?_ (hnp := np_mRef_thrown) (hcl := show k + 4 ≤ 601024 from hk) (hsl := show n + 24 ≤ 7293034 from hn)
  refine go_top h02 ?_
  refine go_iload dLaw_law_1202 rfl ?_
  refine go_icmp_eq (tgt := 1209) dLaw_law_1204 (fun c1 => ?_) (fun c1 => ?_)
  · refine go_iload dLaw_law_1209 rfl ?_
    refine go_if_ne (tgt := 1226) dLaw_law_1211 (fun c2 => ?_) (fun c2 => ?_)
    · refine go_goto (tgt := 1289) dLaw_law_1226 ?_
      refine go_fg 5 (go_fg 6 ?_)
      exact hK hx2 _ _ g2 A2 ⟨hA1.sm hs2 (by omega), hR2, hr2, iv_un hv, hS1.cg (fun q h1 => hs2 q (by omega)), hb2, hbx, _, hu2⟩
    · refine go_aload_n dLaw_law_1214 rfl ?_
      refine go_iconst (v := 0) dLaw_law_1215 (by decide) ?_
      refine go_lald dLaw_law_1216 hu2 (vp_in_nI (n := 0) (by omega) (by omega)) rfl ?_
      refine go_iload dLaw_law_1217 rfl ?_
      refine go_i2l dLaw_law_1219 ?_
      refine go_lcmp dLaw_law_1220 ?_
      refine go_if_eq (tgt := 1226) dLaw_law_1221 (fun c3 => ?_) (fun c3 => ?_)
      · refine go_goto (tgt := 1289) dLaw_law_1226 ?_
        refine go_fg 5 (go_fg 6 ?_)
        exact hK hx2 _ _ g2 A2 ⟨hA1.sm hs2 (by omega), hR2, hr2, iv_un hv, hS1.cg (fun q h1 => hs2 q (by omega)), hb2, hbx, _, hu2⟩
      · exact absurd (lc_e.mpr (hf1 c2)) c3
  · exact absurd rfl c1
set_option maxHeartbeats 4000000 in
theorem l_law_take {E : pmEv} {hm h : pmH} {d : Bool} {k n b x L i : Nat} {xs : Nat → Int32} {α : aPF} {g : Nat → Int32} {A : Nat → Nat → Int32} {Q : pmA → pmS → Prop} (hI : LI E h b x L xs α g A) (hi : i + 5 ≤ L) (hL : L ≤ 2560) (hk : k + 4 ≤ 601024) (hn : n + 24 ≤ 7293034) (hK : ∀ h' d' α' g' A', LI E h' b x L xs α' g' A' → Go E (mLaw_law, hm, 601024, 7293034) 1289 [some (.ref b), some (.ref x), some (.ref (x + 31)), some (.ref (x + 48)), some (.int (nI i)), none, none] [] (h', none, d') (k + 4) (n + 24) Q) : Go E (mLaw_law, hm, 601024, 7293034) 1229 [some (.ref b), some (.ref x), some (.ref (x + 31)), some (.ref (x + 48)), some (.int (nI i)), none, none] [] (h, none, d) k n Q := by
  obtain ⟨hA, hR, hr, hv, hS, hb, hbx, f0, hu⟩ := hI
  refine go_aload_n dLaw_law_1229 rfl ?_
  refine go_lawS0 dLaw_law_1230 ok_mLaw_take st_mLaw_take qm_Law_143 (h_take (α := α)  hA hS) (show k + 4 ≤ 601024 from hk) (show n + 24 ≤ 7293034 from hn) (fun hx1 d1 hA1 hs1 => ?_) (hnp := np_mLaw_take)
  have hR1 : RfA hx1 (x + 31) g A := hR.cg (fun q h1 h2 => hs1 q (by omega))
  have hb1 : hx1 b = some (pmT L xs) := (hs1 b (by omega)).trans hb
  have hS1 : SA E hx1 x := hS.cg (fun q h1 => hs1 q (by omega))
  have hu1 : hx1 (x + 48) = some (pmJ 1 f0) := (hs1 _ (by omega)).trans hu
  refine go_istore dLaw_law_1233 ?_
  refine go_aload_n dLaw_law_1235 rfl ?_
  refine go_refR dLaw_law_1236 ok_mRef_take im_mRef_take se_mRef_take qm_Law_146 hR1.1 (r_take hR1 hr hv) rv_take (show k + 4 ≤ 601024 from hk) (show n + 24 ≤ 7293034 from hn) (fun hx2 d2 g2 A2 hR2 hr2 h02 hs2 => ?_) (hnp := np_mRef_take)
  have hb2 : hx2 b = some (pmT L xs) := (hs2 b (by omega)).trans hb1
  have hu2 := (hs2 (x + 48) (by omega)).trans hu1
  refine go_aload_n dLaw_law_1239 rfl ?_
  refine go_virtP dLaw_law_1240 ok_mRef_thrown im_mRef_thrown se_mRef_thrown qm_Law_85 hR2.1 (r_thrown hR2) ?_ (hnp := np_mRef_thrown) (hcl := show k + 4 ≤ 601024 from hk) (hsl := show n + 24 ≤ 7293034 from hn)
  refine go_top h02 ?_
  refine go_iload dLaw_law_1243 rfl ?_
  refine go_icmp_eq (tgt := 1250) dLaw_law_1245 (fun c1 => ?_) (fun c1 => ?_)
  · refine go_goto (tgt := 1289) dLaw_law_1250 ?_
    refine go_fg 5 ?_
    exact hK hx2 _ _ g2 A2 ⟨hA1.sm hs2 (by omega), hR2, hr2, iv_ta hv, hS1.cg (fun q h1 => hs2 q (by omega)), hb2, hbx, _, hu2⟩
  · exact absurd rfl c1
set_option maxHeartbeats 4000000 in
theorem l_law_told {E : pmEv} {hm h : pmH} {d : Bool} {k n b x L i : Nat} {xs : Nat → Int32} {α : aPF} {g : Nat → Int32} {A : Nat → Nat → Int32} {Q : pmA → pmS → Prop} (hI : LI E h b x L xs α g A) (hi : i + 5 ≤ L) (hL : L ≤ 2560) (hk : k + 4 ≤ 601024) (hn : n + 24 ≤ 7293034) (hK : ∀ h' d' α' g' A', LI E h' b x L xs α' g' A' → Go E (mLaw_law, hm, 601024, 7293034) 1289 [some (.ref b), some (.ref x), some (.ref (x + 31)), some (.ref (x + 48)), some (.int (nI i)), none, none] [] (h', none, d') (k + 4) (n + 24) Q) : Go E (mLaw_law, hm, 601024, 7293034) 1253 [some (.ref b), some (.ref x), some (.ref (x + 31)), some (.ref (x + 48)), some (.int (nI i)), none, none] [] (h, none, d) k n Q := by
  obtain ⟨hA, hR, hr, hv, hS, hb, hbx, f0, hu⟩ := hI
  refine go_aload_n dLaw_law_1253 rfl ?_
  refine go_aload_n dLaw_law_1254 rfl ?_
  refine go_iload dLaw_law_1255 rfl ?_
  refine go_iconst (v := 1) dLaw_law_1257 (by decide) ?_
  refine go_iadd dLaw_law_1258 ?_
  refine go_top (y := nI (i + 1)) (by rw [show (1 : Int32) = nI 1 from rfl, nI_add]) ?_
  refine go_ialdT dLaw_law_1259 hb (by exact vp_in_nI (by omega) (by omega)) (congrArg _ (nI_clamp (by omega))) ?_
  refine go_virtF dLaw_law_1260 ok_mPF_told im_mPF_told se_mPF_told qm_Law_147 hA.1 (o_told hA hS) rfl (fun hx1 d1 hA1 hs1 => ?_) (hnp := np_mPF_told) (hcl := show k + 4 ≤ 601024 from hk) (hsl := show n + 24 ≤ 7293034 from hn)
  have hR1 : RfA hx1 (x + 31) g A := hR.cg (fun q h1 h2 => hs1 q (by omega))
  have hb1 : hx1 b = some (pmT L xs) := (hs1 b (by omega)).trans hb
  have hS1 : SA E hx1 x := hS.cg (fun q h1 => hs1 q (by omega))
  have hu1 : hx1 (x + 48) = some (pmJ 1 f0) := (hs1 _ (by omega)).trans hu
  refine go_aload_n dLaw_law_1263 rfl ?_
  refine go_aload_n dLaw_law_1264 rfl ?_
  refine go_iload dLaw_law_1265 rfl ?_
  refine go_iconst (v := 1) dLaw_law_1267 (by decide) ?_
  refine go_iadd dLaw_law_1268 ?_
  refine go_top (y := nI (i + 1)) (by rw [show (1 : Int32) = nI 1 from rfl, nI_add]) ?_
  refine go_ialdT dLaw_law_1269 hb1 (by exact vp_in_nI (by omega) (by omega)) (congrArg _ (nI_clamp (by omega))) ?_
  refine go_refR dLaw_law_1270 ok_mRef_told im_mRef_told se_mRef_told qm_Law_150 hR1.1 (r_told hR1 hr hv) rfl (show k + 4 ≤ 601024 from hk) (show n + 24 ≤ 7293034 from hn) (fun hx2 d2 g2 A2 hR2 hr2 h02 hs2 => ?_) (hnp := np_mRef_told)
  have hb2 : hx2 b = some (pmT L xs) := (hs2 b (by omega)).trans hb1
  have hu2 := (hs2 (x + 48) (by omega)).trans hu1
  refine go_icmp_eq (tgt := 1289) dLaw_law_1273 (fun c1 => ?_) (fun c1 => ?_)
  · exact hK hx2 _ _ g2 A2 ⟨hA1.sm hs2 (by omega), hR2, hr2, iv_to hv, hS1.cg (fun q h1 => hs2 q (by omega)), hb2, hbx, _, hu2⟩
  · exact absurd rfl c1
set_option maxHeartbeats 4000000 in
theorem l_law_drop {E : pmEv} {hm h : pmH} {d : Bool} {k n b x L i : Nat} {xs : Nat → Int32} {α : aPF} {g : Nat → Int32} {A : Nat → Nat → Int32} {Q : pmA → pmS → Prop} (hI : LI E h b x L xs α g A) (hi : i + 5 ≤ L) (hL : L ≤ 2560) (hk : k + 4 ≤ 601024) (hn : n + 24 ≤ 7293034) (hK : ∀ h' d' α' g' A', LI E h' b x L xs α' g' A' → Go E (mLaw_law, hm, 601024, 7293034) 1289 [some (.ref b), some (.ref x), some (.ref (x + 31)), some (.ref (x + 48)), some (.int (nI i)), none, none] [] (h', none, d') (k + 4) (n + 24) Q) : Go E (mLaw_law, hm, 601024, 7293034) 1278 [some (.ref b), some (.ref x), some (.ref (x + 31)), some (.ref (x + 48)), some (.int (nI i)), none, none] [] (h, none, d) k n Q := by
  obtain ⟨hA, hR, hr, hv, hS, hb, hbx, f0, hu⟩ := hI
  refine go_aload_n dLaw_law_1278 rfl ?_
  refine go_virtF dLaw_law_1279 ok_mPF_drop im_mPF_drop se_mPF_drop qm_Law_151 hA.1 (o_drop hA hS) rfl (fun hx1 d1 hA1 hs1 => ?_) (hnp := np_mPF_drop) (hcl := show k + 4 ≤ 601024 from hk) (hsl := show n + 24 ≤ 7293034 from hn)
  have hR1 : RfA hx1 (x + 31) g A := hR.cg (fun q h1 h2 => hs1 q (by omega))
  have hb1 : hx1 b = some (pmT L xs) := (hs1 b (by omega)).trans hb
  have hS1 : SA E hx1 x := hS.cg (fun q h1 => hs1 q (by omega))
  have hu1 : hx1 (x + 48) = some (pmJ 1 f0) := (hs1 _ (by omega)).trans hu
  refine go_aload_n dLaw_law_1282 rfl ?_
  refine go_refR dLaw_law_1283 ok_mRef_drop im_mRef_drop se_mRef_drop qm_Law_154 hR1.1 (r_drop hR1 hr hv) rfl (show k + 4 ≤ 601024 from hk) (show n + 24 ≤ 7293034 from hn) (fun hx2 d2 g2 A2 hR2 hr2 h02 hs2 => ?_) (hnp := np_mRef_drop)
  have hb2 : hx2 b = some (pmT L xs) := (hs2 b (by omega)).trans hb1
  have hu2 := (hs2 (x + 48) (by omega)).trans hu1
  refine go_goto (tgt := 1289) dLaw_law_1286 ?_
  exact hK hx2 _ _ g2 A2 ⟨hA1.sm hs2 (by omega), hR2, hr2, iv_dr hv, hS1.cg (fun q h1 => hs2 q (by omega)), hb2, hbx, _, hu2⟩
