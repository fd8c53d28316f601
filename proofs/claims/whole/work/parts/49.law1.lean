/-! ===== the law's helpers (by wip/whole/gen_law1.py) ===== -/
def rvI (o : pmA) : Int32 := match o with
  | .inl (some (.int w)) => w
  | _ => 0
def RetL (x u : Nat) (h : pmH) (cs : List Nat) (sp : pmA × aPF) : pmA → pmS → Prop := fun o S => o = .inl (some (.int (nI (rcN cs sp.1)))) ∧ PFA S.1 x sp.2 ∧ (∃ f', S.1 u = some (pmJ 1 f') ∧ (nI (rcN cs sp.1) = 0 → f' 0 = (rvI sp.1).toInt64)) ∧ (∀ q, q ≠ u → q < x ∨ x + 31 ≤ q → S.1 q = h q) ∧ S.2.1 = none
def RetL0 (x : Nat) (h : pmH) (cs : List Nat) (sp : pmA × aPF) : pmA → pmS → Prop := fun o S => o = .inl (some (.int (nI (rcN cs sp.1)))) ∧ PFA S.1 x sp.2 ∧ Sm h S.1 x 31 ∧ S.2.1 = none
theorem retL_v {x u : Nat} {h h' : pmH} {d : Bool} {f : Nat → Int64} {w : Int32} {cs : List Nat} {sp : pmA × aPF} (e : sp.1 = .inl (some (.int w))) (hP : PFA h' x sp.2) (hS : Sm h h' x 31) (_ : h u = some (pmJ 1 f)) (hux : u < x ∨ x + 31 ≤ u) : RetL x u h cs sp (.inl (some (.int 0))) (pmU h' u (pmJ 1 (vp_updL f 0 w.toInt64)), none, d) := by
  refine ⟨by rw [e]; rfl, hP.sm (Sm.put1 _) (by omega), ⟨_, pmU_s _ _ _, fun _ => ?_⟩, fun q h1 h2 => (pmU_n _ _ h1).trans (hS q h2), rfl⟩
  rw [e]
  exact pk_uLs
theorem retL_x {x u k y : Nat} {h h' : pmH} {d : Bool} {f : Nat → Int64} {cs : List Nat} {sp : pmA × aPF} (e : sp.1 = .inr y) (hk : cs.getD y 0 = k) (h0 : ¬ nI k = 0) (hP : PFA h' x sp.2) (hS : Sm h h' x 31) (hu : h u = some (pmJ 1 f)) (hux : u < x ∨ x + 31 ≤ u) : RetL x u h cs sp (.inl (some (.int (nI k)))) (h', none, d) := by
  have hr : rcN cs sp.1 = k := by rw [e]; exact hk
  refine ⟨by rw [hr], hP, ⟨f, (hS _ hux).trans hu, fun q => absurd (by rw [hr] at q; exact q) h0⟩, fun q _ h2 => hS q h2, rfl⟩
theorem retL0_v {x : Nat} {h h' : pmH} {d : Bool} {cs : List Nat} {sp : pmA × aPF} (e : sp.1 = .inl none) (hP : PFA h' x sp.2) (hS : Sm h h' x 31) : RetL0 x h cs sp (.inl (some (.int 0))) (h', none, d) := ⟨by rw [e]; rfl, hP, hS, rfl⟩
theorem retL0_x {x k y : Nat} {h h' : pmH} {d : Bool} {cs : List Nat} {sp : pmA × aPF} (e : sp.1 = .inr y) (hk : cs.getD y 0 = k) (_ : ¬ nI k = 0) (hP : PFA h' x sp.2) (hS : Sm h h' x 31) : RetL0 x h cs sp (.inl (some (.int (nI k)))) (h', none, d) := by
  have hr : rcN cs sp.1 = k := by rw [e]; exact hk
  exact ⟨by rw [hr], hP, hS, rfl⟩
section PRF
variable {E : pmEv} {F : pmFr} {pc : Nat} {L : pmL} {st : List Value} {S : pmS} {k n : Nat} {Q : pmA → pmS → Prop}
theorem go_virtF {x b ci : Nat} {fs : List Value} {r : vw_C} {M : pmMeth} {vs rest st0 : List Value} {sp : pmA × aPF} {v : Option Value} {hh : pmH} {dd : Bool} {pc' : Nat} (hd : decode F.1.2.1 pc = .ok (.invokevirtual x, 3)) (hok : pmOk M) (him : Cond.instanceMethod M.1 ∈ pmW) (hse : Cond.selects M.1.cls M.1 M.1 ∈ pmW) (hl : Cond.methodLink F.1.1.cls x M.1 ∈ pmW) (hb : hh b = some (pmO ci fs)) (hC : Call E M (.ref b :: vs) hh none 4 24 (RetF b hh sp)) (e : sp.1 = .inl v)
    (h : ∀ h' d, PFA h' b sp.2 → Sm hh h' b 31 → Go E F pc' L (v.toList ++ rest) (h', none, d) (k + 4) (n + 24) Q)
    (hr : pmCl[ci]? = some r := by rfl) (hrc : r.1 = M.1.cls := by rfl) (hs0 : st0 = vs.reverse ++ .ref b :: rest := by rfl) (hnp : (parseMethodDescriptor M.1.desc).map (fun d => d.parameters.length) = some vs.length := by decide +kernel) (hfr : M.2.2.2.2.2.2.2.1 + 1 ≤ F.1.2.2.2.2.2.2.2.1 := by exact Nat.le_of_ble_eq_true rfl) (hlo : 8 + (M.2.2.1 + 11) + M.2.2.2.2.2.2.2.2 ≤ F.1.2.2.2.2.2.2.2.2 := by exact Nat.le_of_ble_eq_true rfl) (hcl : k + 4 ≤ F.2.2.1 := by exact Nat.le_of_ble_eq_true rfl) (hsl : n + 24 ≤ F.2.2.2 := by exact Nat.le_of_ble_eq_true rfl) (hW : (rest.map fun v => v.category).sum ≤ 8 := by exact Nat.le_of_ble_eq_true rfl) (hp : pc + 3 = pc' := by rfl) : Go E F pc L st0 (hh, none, dd) k n Q :=
  go_virt hd hok him hse hl hb hC (fun v' S'' hq => by obtain ⟨h1, h2, h3, h4⟩ := hq; rw [e] at h1; cases h1; rw [h4]; exact h _ _ h2 h3) (fun x' S'' hq => by obtain ⟨h1, -⟩ := hq; rw [e] at h1; cases h1) hr hrc hs0 hnp hfr hlo hcl hsl hW hp
theorem go_virtFT {x b ci y : Nat} {fs : List Value} {r : vw_C} {M : pmMeth} {vs rest st0 : List Value} {sp : pmA × aPF} {hh : pmH} {dd : Bool} (hd : decode F.1.2.1 pc = .ok (.invokevirtual x, 3)) (hok : pmOk M) (him : Cond.instanceMethod M.1 ∈ pmW) (hse : Cond.selects M.1.cls M.1 M.1 ∈ pmW) (hl : Cond.methodLink F.1.1.cls x M.1 ∈ pmW) (hb : hh b = some (pmO ci fs)) (hC : Call E M (.ref b :: vs) hh none 4 24 (RetF b hh sp)) (e : sp.1 = .inr y)
    (h : ∀ h' d, PFA h' b sp.2 → Sm hh h' b 31 → GoT E F pc L (h', none, d) (k + 4) (n + 24) Q y)
    (hr : pmCl[ci]? = some r := by rfl) (hrc : r.1 = M.1.cls := by rfl) (hs0 : st0 = vs.reverse ++ .ref b :: rest := by rfl) (hnp : (parseMethodDescriptor M.1.desc).map (fun d => d.parameters.length) = some vs.length := by decide +kernel) (hfr : M.2.2.2.2.2.2.2.1 + 1 ≤ F.1.2.2.2.2.2.2.2.1 := by exact Nat.le_of_ble_eq_true rfl) (hlo : 8 + (M.2.2.1 + 11) + M.2.2.2.2.2.2.2.2 ≤ F.1.2.2.2.2.2.2.2.2 := by exact Nat.le_of_ble_eq_true rfl) (hcl : k + 4 ≤ F.2.2.1 := by exact Nat.le_of_ble_eq_true rfl) (hsl : n + 24 ≤ F.2.2.2 := by exact Nat.le_of_ble_eq_true rfl) (hW : (rest.map fun v => v.category).sum ≤ 8 := by exact Nat.le_of_ble_eq_true rfl) : Go E F pc L st0 (hh, none, dd) k n Q :=
  go_virt (pc' := pc + 3) hd hok him hse hl hb hC (fun v' S'' hq => by obtain ⟨h1, -⟩ := hq; rw [e] at h1; cases h1) (fun x' S'' hq => by obtain ⟨h1, h2, h3, h4⟩ := hq; rw [e] at h1; cases h1; rw [h4]; exact h _ _ h2 h3) hr hrc hs0 hnp hfr hlo hcl hsl hW rfl
end PRF
theorem sh_head {α : aPF} {a1 a2 a3 a4 : Int32} : (hdF α a1 a2 a3 a4).1 = .inl none ∨ (hdF α a1 a2 a3 a4).1 = .inr 1 := by
  unfold hdF
  repeat' split
  all_goals first | exact Or.inl rfl | exact Or.inr (rfl)
theorem sh_colour {α : aPF} {a1 a2 a3 a4 : Int32} : (∃ w, (coF α a1 a2 a3 a4).1 = .inl (some (.int w))) ∨ (coF α a1 a2 a3 a4).1 = .inr 0 ∨ (coF α a1 a2 a3 a4).1 = .inr 1 ∨ (coF α a1 a2 a3 a4).1 = .inr 3 := by
  unfold coF
  repeat' split
  all_goals first | exact Or.inl (⟨_, rfl⟩) | exact Or.inr (Or.inl rfl) | exact Or.inr (Or.inr (Or.inl rfl)) | exact Or.inr (Or.inr (Or.inr (rfl)))
theorem sh_put {α : aPF} {a1 a2 a3 a4 : Int32} : (∃ w, (puF α a1 a2 a3 a4).1 = .inl (some (.int w))) ∨ (puF α a1 a2 a3 a4).1 = .inr 0 ∨ (puF α a1 a2 a3 a4).1 = .inr 2 ∨ (puF α a1 a2 a3 a4).1 = .inr 1 := by
  unfold puF
  repeat' split
  all_goals first | exact Or.inl (⟨_, rfl⟩) | exact Or.inr (Or.inl rfl) | exact Or.inr (Or.inr (Or.inl rfl)) | exact Or.inr (Or.inr (Or.inr (rfl)))
theorem sh_tag {α : aPF} {a1 a2 : Int32} : (∃ w, (tgF α a1 a2).1 = .inl (some (.int w))) ∨ (tgF α a1 a2).1 = .inr 0 ∨ (tgF α a1 a2).1 = .inr 1 := by
  unfold tgF
  repeat' split
  all_goals first | exact Or.inl (⟨_, rfl⟩) | exact Or.inr (Or.inl rfl) | exact Or.inr (Or.inr (rfl))
theorem sh_extra {α : aPF} {a1 : Int32} : (∃ w, (exF α a1).1 = .inl (some (.int w))) ∨ (exF α a1).1 = .inr 0 ∨ (exF α a1).1 = .inr 1 ∨ (exF α a1).1 = .inr 3 := by
  unfold exF
  repeat' split
  all_goals first | exact Or.inl (⟨_, rfl⟩) | exact Or.inr (Or.inl rfl) | exact Or.inr (Or.inr (Or.inl rfl)) | exact Or.inr (Or.inr (Or.inr (rfl)))
theorem sh_byteOf {α : aPF} {a1 a2 : Int32} : (∃ w, (boF α a1 a2).1 = .inl (some (.int w))) ∨ (boF α a1 a2).1 = .inr 0 ∨ (boF α a1 a2).1 = .inr 2 ∨ (boF α a1 a2).1 = .inr 1 ∨ (boF α a1 a2).1 = .inr 3 := by
  unfold boF
  repeat' split
  all_goals first | exact Or.inl (⟨_, rfl⟩) | exact Or.inr (Or.inl rfl) | exact Or.inr (Or.inr (Or.inl rfl)) | exact Or.inr (Or.inr (Or.inr (Or.inl rfl))) | exact Or.inr (Or.inr (Or.inr (Or.inr (rfl))))
theorem sh_reduce {α : aPF} : (∃ w, (reF α).1 = .inl (some (.int w))) ∨ (reF α).1 = .inr 0 := by
  unfold reF
  repeat' split
  all_goals first | exact Or.inl (⟨_, rfl⟩) | exact Or.inr (rfl)
theorem sh_write {α : aPF} : (∃ w, (wrF α).1 = .inl (some (.int w))) ∨ (wrF α).1 = .inr 0 := by
  unfold wrF
  repeat' split
  all_goals first | exact Or.inl (⟨_, rfl⟩) | exact Or.inr (rfl)
theorem sh_byteAt {α : aPF} {a1 : Int32} : (∃ w, (baF α a1).1 = .inl (some (.int w))) ∨ (baF α a1).1 = .inr 2 := by
  unfold baF
  repeat' split
  all_goals first | exact Or.inl (⟨_, rfl⟩) | exact Or.inr (rfl)
theorem sh_feed {α : aPF} {a1 : Int32} : (∃ w, (feF α a1).1 = .inl (some (.int w))) ∨ (feF α a1).1 = .inr 1 ∨ (feF α a1).1 = .inr 3 := by
  unfold feF
  repeat' split
  all_goals first | exact Or.inl (⟨_, rfl⟩) | exact Or.inr (Or.inl rfl) | exact Or.inr (Or.inr (rfl))
theorem sh_pass {α : aPF} {a1 a2 : Int32} : (∃ w, (paF α a1 a2).1 = .inl (some (.int w))) ∨ (paF α a1 a2).1 = .inr 2 ∨ (paF α a1 a2).1 = .inr 1 ∨ (paF α a1 a2).1 = .inr 3 := by
  unfold paF
  repeat' split
  all_goals first | exact Or.inl (⟨_, rfl⟩) | exact Or.inr (Or.inl rfl) | exact Or.inr (Or.inr (Or.inl rfl)) | exact Or.inr (Or.inr (Or.inr (rfl)))
theorem sh_alter {α : aPF} {a1 a2 a3 : Int32} : (∃ w, (alF α a1 a2 a3).1 = .inl (some (.int w))) ∨ (alF α a1 a2 a3).1 = .inr 2 ∨ (alF α a1 a2 a3).1 = .inr 1 := by
  unfold alF
  repeat' split
  all_goals first | exact Or.inl (⟨_, rfl⟩) | exact Or.inr (Or.inl rfl) | exact Or.inr (Or.inr (rfl))
theorem sh_at {α : aPF} {a1 a2 a3 : Int32} : (∃ w, (atF α a1 a2 a3).1 = .inl (some (.int w))) ∨ (atF α a1 a2 a3).1 = .inr 0 ∨ (atF α a1 a2 a3).1 = .inr 2 := by
  unfold atF
  repeat' split
  all_goals first | exact Or.inl (⟨_, rfl⟩) | exact Or.inr (Or.inl rfl) | exact Or.inr (Or.inr (rfl))
theorem sh_found {α : aPF} {a1 : Int32} : (∃ w, (foF α a1).1 = .inl (some (.int w))) ∨ (foF α a1).1 = .inr 0 := by
  unfold foF
  repeat' split
  all_goals first | exact Or.inl (⟨_, rfl⟩) | exact Or.inr (rfl)
theorem sh_entry {α : aPF} {a1 a2 : Int32} : (∃ w, (eyF α a1 a2).1 = .inl (some (.int w))) ∨ (eyF α a1 a2).1 = .inr 0 ∨ (eyF α a1 a2).1 = .inr 2 ∨ (eyF α a1 a2).1 = .inr 1 := by
  unfold eyF
  repeat' split
  all_goals first | exact Or.inl (⟨_, rfl⟩) | exact Or.inr (Or.inl rfl) | exact Or.inr (Or.inr (Or.inl rfl)) | exact Or.inr (Or.inr (Or.inr (rfl)))
theorem sh_unknown {α : aPF} {a1 a2 : Int32} : (∃ w, (unF α a1 a2).1 = .inl (some (.int w))) ∨ (unF α a1 a2).1 = .inr 0 ∨ (unF α a1 a2).1 = .inr 2 := by
  unfold unF
  repeat' split
  all_goals first | exact Or.inl (⟨_, rfl⟩) | exact Or.inr (Or.inl rfl) | exact Or.inr (Or.inr (rfl))
theorem sh_take {α : aPF} : (taF α).1 = .inl none ∨ (taF α).1 = .inr 0 := by
  unfold taF
  repeat' split
  all_goals first | exact Or.inl rfl | exact Or.inr (rfl)
set_option maxHeartbeats 4000000 in
theorem h_head {E : pmEv} {h : pmH} {x : Nat} {α : aPF} {a1 a2 a3 a4 : Int32} (hA : PFA h x α) (hS0 : SA E h x) : Call E mLaw_head [.ref x, .int a1, .int a2, .int a3, .int a4] h none 4 24 (RetL0 x h [0, 1] (hdF α a1 a2 a3 a4)) := by
  refine call_of (L := [some (.ref x), some (.int a1), some (.int a2), some (.int a3), some (.int a4), none]) ok_mLaw_head (Nat.le_of_ble_eq_true rfl) ?_
  rcases (sh_head (α := α) (a1 := a1) (a2 := a2) (a3 := a3) (a4 := a4)) with e | e
  · refine go_aload_n dLaw_head_0 rfl ?_
    refine go_iload_n dLaw_head_1 rfl ?_
    refine go_iload_n dLaw_head_2 rfl ?_
    refine go_iload_n dLaw_head_3 rfl ?_
    refine go_iload dLaw_head_4 rfl ?_
    refine go_virtF dLaw_head_6 ok_mPF_head im_mPF_head se_mPF_head qm_Law_7 hA.1 (o_head hA hS0) e (fun hx dx hP hS => ?_) (hnp := np_mPF_head)
    refine go_goto (tgt := 16) dLaw_head_9 ?_
    refine go_iconst (v := 0) dLaw_head_16 (by decide) ?_
    refine go_iret dLaw_head_17 rfl rfl ?_ (Nat.le_of_ble_eq_true rfl) (Nat.le_of_ble_eq_true rfl)
    exact retL0_v e hP hS
  · refine go_aload_n dLaw_head_0 rfl ?_
    refine go_iload_n dLaw_head_1 rfl ?_
    refine go_iload_n dLaw_head_2 rfl ?_
    refine go_iload_n dLaw_head_3 rfl ?_
    refine go_iload dLaw_head_4 rfl ?_
    refine go_virtFT dLaw_head_6 ok_mPF_head im_mPF_head se_mPF_head qm_Law_7 hA.1 (o_head hA hS0) e (fun hx dx hP hS => ?_) (hnp := np_mPF_head)
    refine got_catch [] (0, 9, 12, 13) [] (by decide) rfl ⟨⟨by decide, by decide⟩, by decide⟩ qh_Law_13 (fun _ q => absurd q List.not_mem_nil) (fun exc => ?_)
    refine go_astore dLaw_head_12 ?_
    refine go_iconst (v := 1) dLaw_head_14 (by decide) ?_
    refine go_iret dLaw_head_15 rfl rfl ?_ (Nat.le_of_ble_eq_true rfl) (Nat.le_of_ble_eq_true rfl)
    exact retL0_x (k := 1) e rfl (by decide) hP hS
set_option maxHeartbeats 4000000 in
theorem h_colour {E : pmEv} {h : pmH} {x u : Nat} {α : aPF} {f : Nat → Int64} {a1 a2 a3 a4 : Int32} (hA : PFA h x α) (hu : h u = some (pmJ 1 f)) (hux : u < x ∨ x + 31 ≤ u) (hS0 : SA E h x) : Call E mLaw_colour [.ref x, .int a1, .int a2, .int a3, .int a4, .ref u] h none 4 24 (RetL x u h [1, 2, 0, 3] (coF α a1 a2 a3 a4)) := by
  refine call_of (L := [some (.ref x), some (.int a1), some (.int a2), some (.int a3), some (.int a4), some (.ref u), none]) ok_mLaw_colour (Nat.le_of_ble_eq_true rfl) ?_
  rcases (sh_colour (α := α) (a1 := a1) (a2 := a2) (a3 := a3) (a4 := a4)) with ⟨w, e⟩ | e | e | e
  · refine go_aload dLaw_colour_0 rfl ?_
    refine go_iconst (v := 0) dLaw_colour_2 (by decide) ?_
    refine go_aload_n dLaw_colour_3 rfl ?_
    refine go_iload_n dLaw_colour_4 rfl ?_
    refine go_iload_n dLaw_colour_5 rfl ?_
    refine go_iload_n dLaw_colour_6 rfl ?_
    refine go_iload dLaw_colour_7 rfl ?_
    refine go_virtF dLaw_colour_9 ok_mPF_colour im_mPF_colour se_mPF_colour qm_Law_15 hA.1 (o_colour hA hS0) e (fun hx dx hP hS => ?_) (hnp := np_mPF_colour)
    refine go_i2l dLaw_colour_12 ?_
    refine go_last dLaw_colour_13 ((hS _ hux).trans hu) (by exact vp_in_nI (n := 0) (by omega) (by omega)) rfl ?_
    refine go_goto (tgt := 29) dLaw_colour_14 ?_
    refine go_iconst (v := 0) dLaw_colour_29 (by decide) ?_
    refine go_iret dLaw_colour_30 rfl rfl ?_ (Nat.le_of_ble_eq_true rfl) (Nat.le_of_ble_eq_true rfl)
    exact retL_v e hP hS hu hux
  · refine go_aload dLaw_colour_0 rfl ?_
    refine go_iconst (v := 0) dLaw_colour_2 (by decide) ?_
    refine go_aload_n dLaw_colour_3 rfl ?_
    refine go_iload_n dLaw_colour_4 rfl ?_
    refine go_iload_n dLaw_colour_5 rfl ?_
    refine go_iload_n dLaw_colour_6 rfl ?_
    refine go_iload dLaw_colour_7 rfl ?_
    refine go_virtFT dLaw_colour_9 ok_mPF_colour im_mPF_colour se_mPF_colour qm_Law_15 hA.1 (o_colour hA hS0) e (fun hx dx hP hS => ?_) (hnp := np_mPF_colour)
    refine got_catch [] (0, 14, 17, 19) [(0, 14, 21, 13), (0, 14, 25, 21)] (by decide) rfl ⟨⟨by decide, by decide⟩, by decide⟩ qh_Law_19 (fun _ q => absurd q List.not_mem_nil) (fun exc => ?_)
    refine go_astore dLaw_colour_17 ?_
    refine go_iconst (v := 1) dLaw_colour_19 (by decide) ?_
    refine go_iret dLaw_colour_20 rfl rfl ?_ (Nat.le_of_ble_eq_true rfl) (Nat.le_of_ble_eq_true rfl)
    exact retL_x (k := 1) e rfl (by decide) hP hS hu hux
  · refine go_aload dLaw_colour_0 rfl ?_
    refine go_iconst (v := 0) dLaw_colour_2 (by decide) ?_
    refine go_aload_n dLaw_colour_3 rfl ?_
    refine go_iload_n dLaw_colour_4 rfl ?_
    refine go_iload_n dLaw_colour_5 rfl ?_
    refine go_iload_n dLaw_colour_6 rfl ?_
    refine go_iload dLaw_colour_7 rfl ?_
    refine go_virtFT dLaw_colour_9 ok_mPF_colour im_mPF_colour se_mPF_colour qm_Law_15 hA.1 (o_colour hA hS0) e (fun hx dx hP hS => ?_) (hnp := np_mPF_colour)
    refine got_catch [(0, 14, 17, 19)] (0, 14, 21, 13) [(0, 14, 25, 21)] (by decide) rfl ⟨⟨by decide, by decide⟩, by decide⟩ qh_Law_13 (List.forall_mem_cons.mpr ⟨⟨⟨by decide, by decide⟩, by decide, 0, by decide, by decide, qh_Law_19⟩, (fun _ q => absurd q List.not_mem_nil)⟩) (fun exc => ?_)
    refine go_astore dLaw_colour_21 ?_
    refine go_iconst (v := 2) dLaw_colour_23 (by decide) ?_
    refine go_iret dLaw_colour_24 rfl rfl ?_ (Nat.le_of_ble_eq_true rfl) (Nat.le_of_ble_eq_true rfl)
    exact retL_x (k := 2) e rfl (by decide) hP hS hu hux
  · refine go_aload dLaw_colour_0 rfl ?_
    refine go_iconst (v := 0) dLaw_colour_2 (by decide) ?_
    refine go_aload_n dLaw_colour_3 rfl ?_
    refine go_iload_n dLaw_colour_4 rfl ?_
    refine go_iload_n dLaw_colour_5 rfl ?_
    refine go_iload_n dLaw_colour_6 rfl ?_
    refine go_iload dLaw_colour_7 rfl ?_
    refine go_virtFT dLaw_colour_9 ok_mPF_colour im_mPF_colour se_mPF_colour qm_Law_15 hA.1 (o_colour hA hS0) e (fun hx dx hP hS => ?_) (hnp := np_mPF_colour)
    refine got_catch [(0, 14, 17, 19), (0, 14, 21, 13)] (0, 14, 25, 21) [] (by decide) rfl ⟨⟨by decide, by decide⟩, by decide⟩ qh_Law_21 (List.forall_mem_cons.mpr ⟨⟨⟨by decide, by decide⟩, by decide, 0, by decide, by decide, qh_Law_19⟩, (List.forall_mem_cons.mpr ⟨⟨⟨by decide, by decide⟩, by decide, 1, by decide, by decide, qh_Law_13⟩, (fun _ q => absurd q List.not_mem_nil)⟩)⟩) (fun exc => ?_)
    refine go_astore dLaw_colour_25 ?_
    refine go_iconst (v := 3) dLaw_colour_27 (by decide) ?_
    refine go_iret dLaw_colour_28 rfl rfl ?_ (Nat.le_of_ble_eq_true rfl) (Nat.le_of_ble_eq_true rfl)
    exact retL_x (k := 3) e rfl (by decide) hP hS hu hux
set_option maxHeartbeats 4000000 in
theorem h_put {E : pmEv} {h : pmH} {x u : Nat} {α : aPF} {f : Nat → Int64} {a1 a2 a3 a4 : Int32} (hA : PFA h x α) (hu : h u = some (pmJ 1 f)) (hux : u < x ∨ x + 31 ≤ u) (hS0 : SA E h x) : Call E mLaw_put [.ref x, .int a1, .int a2, .int a3, .int a4, .ref u] h none 4 24 (RetL x u h [1, 3, 2] (puF α a1 a2 a3 a4)) := by
  refine call_of (L := [some (.ref x), some (.int a1), some (.int a2), some (.int a3), some (.int a4), some (.ref u), none]) ok_mLaw_put (Nat.le_of_ble_eq_true rfl) ?_
  rcases (sh_put (α := α) (a1 := a1) (a2 := a2) (a3 := a3) (a4 := a4)) with ⟨w, e⟩ | e | e | e
  · refine go_aload dLaw_put_0 rfl ?_
    refine go_iconst (v := 0) dLaw_put_2 (by decide) ?_
    refine go_aload_n dLaw_put_3 rfl ?_
    refine go_iload_n dLaw_put_4 rfl ?_
    refine go_iload_n dLaw_put_5 rfl ?_
    refine go_iload_n dLaw_put_6 rfl ?_
    refine go_iload dLaw_put_7 rfl ?_
    refine go_virtF dLaw_put_9 ok_mPF_put im_mPF_put se_mPF_put qm_Law_23 hA.1 (o_put hA hS0) e (fun hx dx hP hS => ?_) (hnp := np_mPF_put)
    refine go_i2l dLaw_put_12 ?_
    refine go_last dLaw_put_13 ((hS _ hux).trans hu) (by exact vp_in_nI (n := 0) (by omega) (by omega)) rfl ?_
    refine go_goto (tgt := 29) dLaw_put_14 ?_
    refine go_iconst (v := 0) dLaw_put_29 (by decide) ?_
    refine go_iret dLaw_put_30 rfl rfl ?_ (Nat.le_of_ble_eq_true rfl) (Nat.le_of_ble_eq_true rfl)
    exact retL_v e hP hS hu hux
  · refine go_aload dLaw_put_0 rfl ?_
    refine go_iconst (v := 0) dLaw_put_2 (by decide) ?_
    refine go_aload_n dLaw_put_3 rfl ?_
    refine go_iload_n dLaw_put_4 rfl ?_
    refine go_iload_n dLaw_put_5 rfl ?_
    refine go_iload_n dLaw_put_6 rfl ?_
    refine go_iload dLaw_put_7 rfl ?_
    refine go_virtFT dLaw_put_9 ok_mPF_put im_mPF_put se_mPF_put qm_Law_23 hA.1 (o_put hA hS0) e (fun hx dx hP hS => ?_) (hnp := np_mPF_put)
    refine got_catch [] (0, 14, 17, 19) [(0, 14, 21, 26), (0, 14, 25, 13)] (by decide) rfl ⟨⟨by decide, by decide⟩, by decide⟩ qh_Law_19 (fun _ q => absurd q List.not_mem_nil) (fun exc => ?_)
    refine go_astore dLaw_put_17 ?_
    refine go_iconst (v := 1) dLaw_put_19 (by decide) ?_
    refine go_iret dLaw_put_20 rfl rfl ?_ (Nat.le_of_ble_eq_true rfl) (Nat.le_of_ble_eq_true rfl)
    exact retL_x (k := 1) e rfl (by decide) hP hS hu hux
  · refine go_aload dLaw_put_0 rfl ?_
    refine go_iconst (v := 0) dLaw_put_2 (by decide) ?_
    refine go_aload_n dLaw_put_3 rfl ?_
    refine go_iload_n dLaw_put_4 rfl ?_
    refine go_iload_n dLaw_put_5 rfl ?_
    refine go_iload_n dLaw_put_6 rfl ?_
    refine go_iload dLaw_put_7 rfl ?_
    refine go_virtFT dLaw_put_9 ok_mPF_put im_mPF_put se_mPF_put qm_Law_23 hA.1 (o_put hA hS0) e (fun hx dx hP hS => ?_) (hnp := np_mPF_put)
    refine got_catch [(0, 14, 17, 19)] (0, 14, 21, 26) [(0, 14, 25, 13)] (by decide) rfl ⟨⟨by decide, by decide⟩, by decide⟩ qh_Law_26 (List.forall_mem_cons.mpr ⟨⟨⟨by decide, by decide⟩, by decide, 0, by decide, by decide, qh_Law_19⟩, (fun _ q => absurd q List.not_mem_nil)⟩) (fun exc => ?_)
    refine go_astore dLaw_put_21 ?_
    refine go_iconst (v := 2) dLaw_put_23 (by decide) ?_
    refine go_iret dLaw_put_24 rfl rfl ?_ (Nat.le_of_ble_eq_true rfl) (Nat.le_of_ble_eq_true rfl)
    exact retL_x (k := 2) e rfl (by decide) hP hS hu hux
  · refine go_aload dLaw_put_0 rfl ?_
    refine go_iconst (v := 0) dLaw_put_2 (by decide) ?_
    refine go_aload_n dLaw_put_3 rfl ?_
    refine go_iload_n dLaw_put_4 rfl ?_
    refine go_iload_n dLaw_put_5 rfl ?_
    refine go_iload_n dLaw_put_6 rfl ?_
    refine go_iload dLaw_put_7 rfl ?_
    refine go_virtFT dLaw_put_9 ok_mPF_put im_mPF_put se_mPF_put qm_Law_23 hA.1 (o_put hA hS0) e (fun hx dx hP hS => ?_) (hnp := np_mPF_put)
    refine got_catch [(0, 14, 17, 19), (0, 14, 21, 26)] (0, 14, 25, 13) [] (by decide) rfl ⟨⟨by decide, by decide⟩, by decide⟩ qh_Law_13 (List.forall_mem_cons.mpr ⟨⟨⟨by decide, by decide⟩, by decide, 0, by decide, by decide, qh_Law_19⟩, (List.forall_mem_cons.mpr ⟨⟨⟨by decide, by decide⟩, by decide, 2, by decide, by decide, qh_Law_26⟩, (fun _ q => absurd q List.not_mem_nil)⟩)⟩) (fun exc => ?_)
    refine go_astore dLaw_put_25 ?_
    refine go_iconst (v := 3) dLaw_put_27 (by decide) ?_
    refine go_iret dLaw_put_28 rfl rfl ?_ (Nat.le_of_ble_eq_true rfl) (Nat.le_of_ble_eq_true rfl)
    exact retL_x (k := 3) e rfl (by decide) hP hS hu hux
set_option maxHeartbeats 4000000 in
theorem h_tag {E : pmEv} {h : pmH} {x u : Nat} {α : aPF} {f : Nat → Int64} {a1 a2 : Int32} (hA : PFA h x α) (hu : h u = some (pmJ 1 f)) (hux : u < x ∨ x + 31 ≤ u) (hS0 : SA E h x) : Call E mLaw_tag [.ref x, .int a1, .int a2, .ref u] h none 4 24 (RetL x u h [1, 2] (tgF α a1 a2)) := by
  refine call_of (L := [some (.ref x), some (.int a1), some (.int a2), some (.ref u), none]) ok_mLaw_tag (Nat.le_of_ble_eq_true rfl) ?_
  rcases (sh_tag (α := α) (a1 := a1) (a2 := a2)) with ⟨w, e⟩ | e | e
  · refine go_aload_n dLaw_tag_0 rfl ?_
    refine go_iconst (v := 0) dLaw_tag_1 (by decide) ?_
    refine go_aload_n dLaw_tag_2 rfl ?_
    refine go_iload_n dLaw_tag_3 rfl ?_
    refine go_iload_n dLaw_tag_4 rfl ?_
    refine go_virtF dLaw_tag_5 ok_mPF_tag im_mPF_tag se_mPF_tag qm_Law_28 hA.1 (o_tag hA hS0) e (fun hx dx hP hS => ?_) (hnp := np_mPF_tag)
    refine go_i2l dLaw_tag_8 ?_
    refine go_last dLaw_tag_9 ((hS _ hux).trans hu) (by exact vp_in_nI (n := 0) (by omega) (by omega)) rfl ?_
    refine go_goto (tgt := 21) dLaw_tag_10 ?_
    refine go_iconst (v := 0) dLaw_tag_21 (by decide) ?_
    refine go_iret dLaw_tag_22 rfl rfl ?_ (Nat.le_of_ble_eq_true rfl) (Nat.le_of_ble_eq_true rfl)
    exact retL_v e hP hS hu hux
  · refine go_aload_n dLaw_tag_0 rfl ?_
    refine go_iconst (v := 0) dLaw_tag_1 (by decide) ?_
    refine go_aload_n dLaw_tag_2 rfl ?_
    refine go_iload_n dLaw_tag_3 rfl ?_
    refine go_iload_n dLaw_tag_4 rfl ?_
    refine go_virtFT dLaw_tag_5 ok_mPF_tag im_mPF_tag se_mPF_tag qm_Law_28 hA.1 (o_tag hA hS0) e (fun hx dx hP hS => ?_) (hnp := np_mPF_tag)
    refine got_catch [] (0, 10, 13, 19) [(0, 10, 17, 13)] (by decide) rfl ⟨⟨by decide, by decide⟩, by decide⟩ qh_Law_19 (fun _ q => absurd q List.not_mem_nil) (fun exc => ?_)
    refine go_astore dLaw_tag_13 ?_
    refine go_iconst (v := 1) dLaw_tag_15 (by decide) ?_
    refine go_iret dLaw_tag_16 rfl rfl ?_ (Nat.le_of_ble_eq_true rfl) (Nat.le_of_ble_eq_true rfl)
    exact retL_x (k := 1) e rfl (by decide) hP hS hu hux
  · refine go_aload_n dLaw_tag_0 rfl ?_
    refine go_iconst (v := 0) dLaw_tag_1 (by decide) ?_
    refine go_aload_n dLaw_tag_2 rfl ?_
    refine go_iload_n dLaw_tag_3 rfl ?_
    refine go_iload_n dLaw_tag_4 rfl ?_
    refine go_virtFT dLaw_tag_5 ok_mPF_tag im_mPF_tag se_mPF_tag qm_Law_28 hA.1 (o_tag hA hS0) e (fun hx dx hP hS => ?_) (hnp := np_mPF_tag)
    refine got_catch [(0, 10, 13, 19)] (0, 10, 17, 13) [] (by decide) rfl ⟨⟨by decide, by decide⟩, by decide⟩ qh_Law_13 (List.forall_mem_cons.mpr ⟨⟨⟨by decide, by decide⟩, by decide, 0, by decide, by decide, qh_Law_19⟩, (fun _ q => absurd q List.not_mem_nil)⟩) (fun exc => ?_)
    refine go_astore dLaw_tag_17 ?_
    refine go_iconst (v := 2) dLaw_tag_19 (by decide) ?_
    refine go_iret dLaw_tag_20 rfl rfl ?_ (Nat.le_of_ble_eq_true rfl) (Nat.le_of_ble_eq_true rfl)
    exact retL_x (k := 2) e rfl (by decide) hP hS hu hux
set_option maxHeartbeats 4000000 in
theorem h_extra {E : pmEv} {h : pmH} {x u : Nat} {α : aPF} {f : Nat → Int64} {a1 : Int32} (hA : PFA h x α) (hu : h u = some (pmJ 1 f)) (hux : u < x ∨ x + 31 ≤ u) (hS0 : SA E h x) : Call E mLaw_extra [.ref x, .int a1, .ref u] h none 4 24 (RetL x u h [1, 2, 0, 3] (exF α a1)) := by
  refine call_of (L := [some (.ref x), some (.int a1), some (.ref u), none]) ok_mLaw_extra (Nat.le_of_ble_eq_true rfl) ?_
  rcases (sh_extra (α := α) (a1 := a1)) with ⟨w, e⟩ | e | e | e
  · refine go_aload_n dLaw_extra_0 rfl ?_
    refine go_iconst (v := 0) dLaw_extra_1 (by decide) ?_
    refine go_aload_n dLaw_extra_2 rfl ?_
    refine go_iload_n dLaw_extra_3 rfl ?_
    refine go_virtF dLaw_extra_4 ok_mPF_extra im_mPF_extra se_mPF_extra qm_Law_32 hA.1 (o_extra hA hS0) e (fun hx dx hP hS => ?_) (hnp := np_mPF_extra)
    refine go_i2l dLaw_extra_7 ?_
    refine go_last dLaw_extra_8 ((hS _ hux).trans hu) (by exact vp_in_nI (n := 0) (by omega) (by omega)) rfl ?_
    refine go_goto (tgt := 21) dLaw_extra_9 ?_
    refine go_iconst (v := 0) dLaw_extra_21 (by decide) ?_
    refine go_iret dLaw_extra_22 rfl rfl ?_ (Nat.le_of_ble_eq_true rfl) (Nat.le_of_ble_eq_true rfl)
    exact retL_v e hP hS hu hux
  · refine go_aload_n dLaw_extra_0 rfl ?_
    refine go_iconst (v := 0) dLaw_extra_1 (by decide) ?_
    refine go_aload_n dLaw_extra_2 rfl ?_
    refine go_iload_n dLaw_extra_3 rfl ?_
    refine go_virtFT dLaw_extra_4 ok_mPF_extra im_mPF_extra se_mPF_extra qm_Law_32 hA.1 (o_extra hA hS0) e (fun hx dx hP hS => ?_) (hnp := np_mPF_extra)
    refine got_catch [] (0, 9, 12, 19) [(0, 9, 15, 13), (0, 9, 18, 21)] (by decide) rfl ⟨⟨by decide, by decide⟩, by decide⟩ qh_Law_19 (fun _ q => absurd q List.not_mem_nil) (fun exc => ?_)
    refine go_astore_n dLaw_extra_12 ?_
    refine go_iconst (v := 1) dLaw_extra_13 (by decide) ?_
    refine go_iret dLaw_extra_14 rfl rfl ?_ (Nat.le_of_ble_eq_true rfl) (Nat.le_of_ble_eq_true rfl)
    exact retL_x (k := 1) e rfl (by decide) hP hS hu hux
  · refine go_aload_n dLaw_extra_0 rfl ?_
    refine go_iconst (v := 0) dLaw_extra_1 (by decide) ?_
    refine go_aload_n dLaw_extra_2 rfl ?_
    refine go_iload_n dLaw_extra_3 rfl ?_
    refine go_virtFT dLaw_extra_4 ok_mPF_extra im_mPF_extra se_mPF_extra qm_Law_32 hA.1 (o_extra hA hS0) e (fun hx dx hP hS => ?_) (hnp := np_mPF_extra)
    refine got_catch [(0, 9, 12, 19)] (0, 9, 15, 13) [(0, 9, 18, 21)] (by decide) rfl ⟨⟨by decide, by decide⟩, by decide⟩ qh_Law_13 (List.forall_mem_cons.mpr ⟨⟨⟨by decide, by decide⟩, by decide, 0, by decide, by decide, qh_Law_19⟩, (fun _ q => absurd q List.not_mem_nil)⟩) (fun exc => ?_)
    refine go_astore_n dLaw_extra_15 ?_
    refine go_iconst (v := 2) dLaw_extra_16 (by decide) ?_
    refine go_iret dLaw_extra_17 rfl rfl ?_ (Nat.le_of_ble_eq_true rfl) (Nat.le_of_ble_eq_true rfl)
    exact retL_x (k := 2) e rfl (by decide) hP hS hu hux
  · refine go_aload_n dLaw_extra_0 rfl ?_
    refine go_iconst (v := 0) dLaw_extra_1 (by decide) ?_
    refine go_aload_n dLaw_extra_2 rfl ?_
    refine go_iload_n dLaw_extra_3 rfl ?_
    refine go_virtFT dLaw_extra_4 ok_mPF_extra im_mPF_extra se_mPF_extra qm_Law_32 hA.1 (o_extra hA hS0) e (fun hx dx hP hS => ?_) (hnp := np_mPF_extra)
    refine got_catch [(0, 9, 12, 19), (0, 9, 15, 13)] (0, 9, 18, 21) [] (by decide) rfl ⟨⟨by decide, by decide⟩, by decide⟩ qh_Law_21 (List.forall_mem_cons.mpr ⟨⟨⟨by decide, by decide⟩, by decide, 0, by decide, by decide, qh_Law_19⟩, (List.forall_mem_cons.mpr ⟨⟨⟨by decide, by decide⟩, by decide, 1, by decide, by decide, qh_Law_13⟩, (fun _ q => absurd q List.not_mem_nil)⟩)⟩) (fun exc => ?_)
    refine go_astore_n dLaw_extra_18 ?_
    refine go_iconst (v := 3) dLaw_extra_19 (by decide) ?_
    refine go_iret dLaw_extra_20 rfl rfl ?_ (Nat.le_of_ble_eq_true rfl) (Nat.le_of_ble_eq_true rfl)
    exact retL_x (k := 3) e rfl (by decide) hP hS hu hux
set_option maxHeartbeats 4000000 in
theorem h_byteOf {E : pmEv} {h : pmH} {x u : Nat} {α : aPF} {f : Nat → Int64} {a1 a2 : Int32} (hA : PFA h x α) (hu : h u = some (pmJ 1 f)) (hux : u < x ∨ x + 31 ≤ u) (hS0 : SA E h x) : Call E mLaw_byteOf [.ref x, .int a1, .int a2, .ref u] h none 4 24 (RetL x u h [1, 3, 2, 4] (boF α a1 a2)) := by
  refine call_of (L := [some (.ref x), some (.int a1), some (.int a2), some (.ref u), none]) ok_mLaw_byteOf (Nat.le_of_ble_eq_true rfl) ?_
  rcases (sh_byteOf (α := α) (a1 := a1) (a2 := a2)) with ⟨w, e⟩ | e | e | e | e
  · refine go_aload_n dLaw_byteOf_0 rfl ?_
    refine go_iconst (v := 0) dLaw_byteOf_1 (by decide) ?_
    refine go_aload_n dLaw_byteOf_2 rfl ?_
    refine go_iload_n dLaw_byteOf_3 rfl ?_
    refine go_iload_n dLaw_byteOf_4 rfl ?_
    refine go_virtF dLaw_byteOf_5 ok_mPF_byteOf im_mPF_byteOf se_mPF_byteOf qm_Law_36 hA.1 (o_byteOf hA hS0) e (fun hx dx hP hS => ?_) (hnp := np_mPF_byteOf)
    refine go_i2l dLaw_byteOf_8 ?_
    refine go_last dLaw_byteOf_9 ((hS _ hux).trans hu) (by exact vp_in_nI (n := 0) (by omega) (by omega)) rfl ?_
    refine go_goto (tgt := 29) dLaw_byteOf_10 ?_
    refine go_iconst (v := 0) dLaw_byteOf_29 (by decide) ?_
    refine go_iret dLaw_byteOf_30 rfl rfl ?_ (Nat.le_of_ble_eq_true rfl) (Nat.le_of_ble_eq_true rfl)
    exact retL_v e hP hS hu hux
  · refine go_aload_n dLaw_byteOf_0 rfl ?_
    refine go_iconst (v := 0) dLaw_byteOf_1 (by decide) ?_
    refine go_aload_n dLaw_byteOf_2 rfl ?_
    refine go_iload_n dLaw_byteOf_3 rfl ?_
    refine go_iload_n dLaw_byteOf_4 rfl ?_
    refine go_virtFT dLaw_byteOf_5 ok_mPF_byteOf im_mPF_byteOf se_mPF_byteOf qm_Law_36 hA.1 (o_byteOf hA hS0) e (fun hx dx hP hS => ?_) (hnp := np_mPF_byteOf)
    refine got_catch [] (0, 10, 13, 19) [(0, 10, 17, 26), (0, 10, 21, 13), (0, 10, 25, 21)] (by decide) rfl ⟨⟨by decide, by decide⟩, by decide⟩ qh_Law_19 (fun _ q => absurd q List.not_mem_nil) (fun exc => ?_)
    refine go_astore dLaw_byteOf_13 ?_
    refine go_iconst (v := 1) dLaw_byteOf_15 (by decide) ?_
    refine go_iret dLaw_byteOf_16 rfl rfl ?_ (Nat.le_of_ble_eq_true rfl) (Nat.le_of_ble_eq_true rfl)
    exact retL_x (k := 1) e rfl (by decide) hP hS hu hux
  · refine go_aload_n dLaw_byteOf_0 rfl ?_
    refine go_iconst (v := 0) dLaw_byteOf_1 (by decide) ?_
    refine go_aload_n dLaw_byteOf_2 rfl ?_
    refine go_iload_n dLaw_byteOf_3 rfl ?_
    refine go_iload_n dLaw_byteOf_4 rfl ?_
    refine go_virtFT dLaw_byteOf_5 ok_mPF_byteOf im_mPF_byteOf se_mPF_byteOf qm_Law_36 hA.1 (o_byteOf hA hS0) e (fun hx dx hP hS => ?_) (hnp := np_mPF_byteOf)
    refine got_catch [(0, 10, 13, 19)] (0, 10, 17, 26) [(0, 10, 21, 13), (0, 10, 25, 21)] (by decide) rfl ⟨⟨by decide, by decide⟩, by decide⟩ qh_Law_26 (List.forall_mem_cons.mpr ⟨⟨⟨by decide, by decide⟩, by decide, 0, by decide, by decide, qh_Law_19⟩, (fun _ q => absurd q List.not_mem_nil)⟩) (fun exc => ?_)
    refine go_astore dLaw_byteOf_17 ?_
    refine go_iconst (v := 2) dLaw_byteOf_19 (by decide) ?_
    refine go_iret dLaw_byteOf_20 rfl rfl ?_ (Nat.le_of_ble_eq_true rfl) (Nat.le_of_ble_eq_true rfl)
    exact retL_x (k := 2) e rfl (by decide) hP hS hu hux
  · refine go_aload_n dLaw_byteOf_0 rfl ?_
    refine go_iconst (v := 0) dLaw_byteOf_1 (by decide) ?_
    refine go_aload_n dLaw_byteOf_2 rfl ?_
    refine go_iload_n dLaw_byteOf_3 rfl ?_
    refine go_iload_n dLaw_byteOf_4 rfl ?_
    refine go_virtFT dLaw_byteOf_5 ok_mPF_byteOf im_mPF_byteOf se_mPF_byteOf qm_Law_36 hA.1 (o_byteOf hA hS0) e (fun hx dx hP hS => ?_) (hnp := np_mPF_byteOf)
    refine got_catch [(0, 10, 13, 19), (0, 10, 17, 26)] (0, 10, 21, 13) [(0, 10, 25, 21)] (by decide) rfl ⟨⟨by decide, by decide⟩, by decide⟩ qh_Law_13 (List.forall_mem_cons.mpr ⟨⟨⟨by decide, by decide⟩, by decide, 0, by decide, by decide, qh_Law_19⟩, (List.forall_mem_cons.mpr ⟨⟨⟨by decide, by decide⟩, by decide, 2, by decide, by decide, qh_Law_26⟩, (fun _ q => absurd q List.not_mem_nil)⟩)⟩) (fun exc => ?_)
    refine go_astore dLaw_byteOf_21 ?_
    refine go_iconst (v := 3) dLaw_byteOf_23 (by decide) ?_
    refine go_iret dLaw_byteOf_24 rfl rfl ?_ (Nat.le_of_ble_eq_true rfl) (Nat.le_of_ble_eq_true rfl)
    exact retL_x (k := 3) e rfl (by decide) hP hS hu hux
  · refine go_aload_n dLaw_byteOf_0 rfl ?_
    refine go_iconst (v := 0) dLaw_byteOf_1 (by decide) ?_
    refine go_aload_n dLaw_byteOf_2 rfl ?_
    refine go_iload_n dLaw_byteOf_3 rfl ?_
    refine go_iload_n dLaw_byteOf_4 rfl ?_
    refine go_virtFT dLaw_byteOf_5 ok_mPF_byteOf im_mPF_byteOf se_mPF_byteOf qm_Law_36 hA.1 (o_byteOf hA hS0) e (fun hx dx hP hS => ?_) (hnp := np_mPF_byteOf)
    refine got_catch [(0, 10, 13, 19), (0, 10, 17, 26), (0, 10, 21, 13)] (0, 10, 25, 21) [] (by decide) rfl ⟨⟨by decide, by decide⟩, by decide⟩ qh_Law_21 (List.forall_mem_cons.mpr ⟨⟨⟨by decide, by decide⟩, by decide, 0, by decide, by decide, qh_Law_19⟩, (List.forall_mem_cons.mpr ⟨⟨⟨by decide, by decide⟩, by decide, 2, by decide, by decide, qh_Law_26⟩, (List.forall_mem_cons.mpr ⟨⟨⟨by decide, by decide⟩, by decide, 1, by decide, by decide, qh_Law_13⟩, (fun _ q => absurd q List.not_mem_nil)⟩)⟩)⟩) (fun exc => ?_)
    refine go_astore dLaw_byteOf_25 ?_
    refine go_iconst (v := 4) dLaw_byteOf_27 (by decide) ?_
    refine go_iret dLaw_byteOf_28 rfl rfl ?_ (Nat.le_of_ble_eq_true rfl) (Nat.le_of_ble_eq_true rfl)
    exact retL_x (k := 4) e rfl (by decide) hP hS hu hux
set_option maxHeartbeats 4000000 in
theorem h_reduce {E : pmEv} {h : pmH} {x u : Nat} {α : aPF} {f : Nat → Int64} (hA : PFA h x α) (hu : h u = some (pmJ 1 f)) (hux : u < x ∨ x + 31 ≤ u) (hS0 : SA E h x) : Call E mLaw_reduce [.ref x, .ref u] h none 4 24 (RetL x u h [1] (reF α)) := by
  refine call_of (L := [some (.ref x), some (.ref u), none]) ok_mLaw_reduce (Nat.le_of_ble_eq_true rfl) ?_
  rcases (sh_reduce (α := α)) with ⟨w, e⟩ | e
  · refine go_aload_n dLaw_reduce_0 rfl ?_
    refine go_iconst (v := 0) dLaw_reduce_1 (by decide) ?_
    refine go_aload_n dLaw_reduce_2 rfl ?_
    refine go_virtF dLaw_reduce_3 ok_mPF_reduce im_mPF_reduce se_mPF_reduce qm_Law_39 hA.1 (o_reduce hA hS0) e (fun hx dx hP hS => ?_) (hnp := np_mPF_reduce)
    refine go_i2l dLaw_reduce_6 ?_
    refine go_last dLaw_reduce_7 ((hS _ hux).trans hu) (by exact vp_in_nI (n := 0) (by omega) (by omega)) rfl ?_
    refine go_goto (tgt := 14) dLaw_reduce_8 ?_
    refine go_iconst (v := 0) dLaw_reduce_14 (by decide) ?_
    refine go_iret dLaw_reduce_15 rfl rfl ?_ (Nat.le_of_ble_eq_true rfl) (Nat.le_of_ble_eq_true rfl)
    exact retL_v e hP hS hu hux
  · refine go_aload_n dLaw_reduce_0 rfl ?_
    refine go_iconst (v := 0) dLaw_reduce_1 (by decide) ?_
    refine go_aload_n dLaw_reduce_2 rfl ?_
    refine go_virtFT dLaw_reduce_3 ok_mPF_reduce im_mPF_reduce se_mPF_reduce qm_Law_39 hA.1 (o_reduce hA hS0) e (fun hx dx hP hS => ?_) (hnp := np_mPF_reduce)
    refine got_catch [] (0, 8, 11, 19) [] (by decide) rfl ⟨⟨by decide, by decide⟩, by decide⟩ qh_Law_19 (fun _ q => absurd q List.not_mem_nil) (fun exc => ?_)
    refine go_astore_n dLaw_reduce_11 ?_
    refine go_iconst (v := 1) dLaw_reduce_12 (by decide) ?_
    refine go_iret dLaw_reduce_13 rfl rfl ?_ (Nat.le_of_ble_eq_true rfl) (Nat.le_of_ble_eq_true rfl)
    exact retL_x (k := 1) e rfl (by decide) hP hS hu hux
set_option maxHeartbeats 4000000 in
theorem h_write {E : pmEv} {h : pmH} {x u : Nat} {α : aPF} {f : Nat → Int64} (hA : PFA h x α) (hu : h u = some (pmJ 1 f)) (hux : u < x ∨ x + 31 ≤ u) (hS0 : SA E h x) : Call E mLaw_write [.ref x, .ref u] h none 4 24 (RetL x u h [1] (wrF α)) := by
  refine call_of (L := [some (.ref x), some (.ref u), none]) ok_mLaw_write (Nat.le_of_ble_eq_true rfl) ?_
  rcases (sh_write (α := α)) with ⟨w, e⟩ | e
  · refine go_aload_n dLaw_write_0 rfl ?_
    refine go_iconst (v := 0) dLaw_write_1 (by decide) ?_
    refine go_aload_n dLaw_write_2 rfl ?_
    refine go_virtF dLaw_write_3 ok_mPF_write im_mPF_write se_mPF_write qm_Law_43 hA.1 (o_write hA hS0) e (fun hx dx hP hS => ?_) (hnp := np_mPF_write)
    refine go_i2l dLaw_write_6 ?_
    refine go_last dLaw_write_7 ((hS _ hux).trans hu) (by exact vp_in_nI (n := 0) (by omega) (by omega)) rfl ?_
    refine go_goto (tgt := 14) dLaw_write_8 ?_
    refine go_iconst (v := 0) dLaw_write_14 (by decide) ?_
    refine go_iret dLaw_write_15 rfl rfl ?_ (Nat.le_of_ble_eq_true rfl) (Nat.le_of_ble_eq_true rfl)
    exact retL_v e hP hS hu hux
  · refine go_aload_n dLaw_write_0 rfl ?_
    refine go_iconst (v := 0) dLaw_write_1 (by decide) ?_
    refine go_aload_n dLaw_write_2 rfl ?_
    refine go_virtFT dLaw_write_3 ok_mPF_write im_mPF_write se_mPF_write qm_Law_43 hA.1 (o_write hA hS0) e (fun hx dx hP hS => ?_) (hnp := np_mPF_write)
    refine got_catch [] (0, 8, 11, 19) [] (by decide) rfl ⟨⟨by decide, by decide⟩, by decide⟩ qh_Law_19 (fun _ q => absurd q List.not_mem_nil) (fun exc => ?_)
    refine go_astore_n dLaw_write_11 ?_
    refine go_iconst (v := 1) dLaw_write_12 (by decide) ?_
    refine go_iret dLaw_write_13 rfl rfl ?_ (Nat.le_of_ble_eq_true rfl) (Nat.le_of_ble_eq_true rfl)
    exact retL_x (k := 1) e rfl (by decide) hP hS hu hux
set_option maxHeartbeats 4000000 in
theorem h_byteAt {E : pmEv} {h : pmH} {x u : Nat} {α : aPF} {f : Nat → Int64} {a1 : Int32} (hA : PFA h x α) (hu : h u = some (pmJ 1 f)) (hux : u < x ∨ x + 31 ≤ u) (hS0 : SA E h x) : Call E mLaw_byteAt [.ref x, .int a1, .ref u] h none 4 24 (RetL x u h [0, 0, 1] (baF α a1)) := by
  refine call_of (L := [some (.ref x), some (.int a1), some (.ref u), none]) ok_mLaw_byteAt (Nat.le_of_ble_eq_true rfl) ?_
  rcases (sh_byteAt (α := α) (a1 := a1)) with ⟨w, e⟩ | e
  · refine go_aload_n dLaw_byteAt_0 rfl ?_
    refine go_iconst (v := 0) dLaw_byteAt_1 (by decide) ?_
    refine go_aload_n dLaw_byteAt_2 rfl ?_
    refine go_iload_n dLaw_byteAt_3 rfl ?_
    refine go_virtF dLaw_byteAt_4 ok_mPF_byteAt im_mPF_byteAt se_mPF_byteAt qm_Law_46 hA.1 (o_byteAt hA hS0) e (fun hx dx hP hS => ?_) (hnp := np_mPF_byteAt)
    refine go_i2l dLaw_byteAt_7 ?_
    refine go_last dLaw_byteAt_8 ((hS _ hux).trans hu) (by exact vp_in_nI (n := 0) (by omega) (by omega)) rfl ?_
    refine go_goto (tgt := 15) dLaw_byteAt_9 ?_
    refine go_iconst (v := 0) dLaw_byteAt_15 (by decide) ?_
    refine go_iret dLaw_byteAt_16 rfl rfl ?_ (Nat.le_of_ble_eq_true rfl) (Nat.le_of_ble_eq_true rfl)
    exact retL_v e hP hS hu hux
  · refine go_aload_n dLaw_byteAt_0 rfl ?_
    refine go_iconst (v := 0) dLaw_byteAt_1 (by decide) ?_
    refine go_aload_n dLaw_byteAt_2 rfl ?_
    refine go_iload_n dLaw_byteAt_3 rfl ?_
    refine go_virtFT dLaw_byteAt_4 ok_mPF_byteAt im_mPF_byteAt se_mPF_byteAt qm_Law_46 hA.1 (o_byteAt hA hS0) e (fun hx dx hP hS => ?_) (hnp := np_mPF_byteAt)
    refine got_catch [] (0, 9, 12, 26) [] (by decide) rfl ⟨⟨by decide, by decide⟩, by decide⟩ qh_Law_26 (fun _ q => absurd q List.not_mem_nil) (fun exc => ?_)
    refine go_astore_n dLaw_byteAt_12 ?_
    refine go_iconst (v := 1) dLaw_byteAt_13 (by decide) ?_
    refine go_iret dLaw_byteAt_14 rfl rfl ?_ (Nat.le_of_ble_eq_true rfl) (Nat.le_of_ble_eq_true rfl)
    exact retL_x (k := 1) e rfl (by decide) hP hS hu hux
set_option maxHeartbeats 4000000 in
theorem h_feed {E : pmEv} {h : pmH} {x u : Nat} {α : aPF} {f : Nat → Int64} {a1 : Int32} (hA : PFA h x α) (hu : h u = some (pmJ 1 f)) (hux : u < x ∨ x + 31 ≤ u) (hS0 : SA E h x) : Call E mLaw_feed [.ref x, .int a1, .ref u] h none 4 24 (RetL x u h [0, 1, 0, 2] (feF α a1)) := by
  refine call_of (L := [some (.ref x), some (.int a1), some (.ref u), none]) ok_mLaw_feed (Nat.le_of_ble_eq_true rfl) ?_
  rcases (sh_feed (α := α) (a1 := a1)) with ⟨w, e⟩ | e | e
  · refine go_aload_n dLaw_feed_0 rfl ?_
    refine go_iconst (v := 0) dLaw_feed_1 (by decide) ?_
    refine go_aload_n dLaw_feed_2 rfl ?_
    refine go_iload_n dLaw_feed_3 rfl ?_
    refine go_virtF dLaw_feed_4 ok_mPF_feed im_mPF_feed se_mPF_feed qm_Law_49 hA.1 (o_feed hA hS0) e (fun hx dx hP hS => ?_) (hnp := np_mPF_feed)
    refine go_i2l dLaw_feed_7 ?_
    refine go_last dLaw_feed_8 ((hS _ hux).trans hu) (by exact vp_in_nI (n := 0) (by omega) (by omega)) rfl ?_
    refine go_goto (tgt := 18) dLaw_feed_9 ?_
    refine go_iconst (v := 0) dLaw_feed_18 (by decide) ?_
    refine go_iret dLaw_feed_19 rfl rfl ?_ (Nat.le_of_ble_eq_true rfl) (Nat.le_of_ble_eq_true rfl)
    exact retL_v e hP hS hu hux
  · refine go_aload_n dLaw_feed_0 rfl ?_
    refine go_iconst (v := 0) dLaw_feed_1 (by decide) ?_
    refine go_aload_n dLaw_feed_2 rfl ?_
    refine go_iload_n dLaw_feed_3 rfl ?_
    refine go_virtFT dLaw_feed_4 ok_mPF_feed im_mPF_feed se_mPF_feed qm_Law_49 hA.1 (o_feed hA hS0) e (fun hx dx hP hS => ?_) (hnp := np_mPF_feed)
    refine got_catch [] (0, 9, 12, 13) [(0, 9, 15, 21)] (by decide) rfl ⟨⟨by decide, by decide⟩, by decide⟩ qh_Law_13 (fun _ q => absurd q List.not_mem_nil) (fun exc => ?_)
    refine go_astore_n dLaw_feed_12 ?_
    refine go_iconst (v := 1) dLaw_feed_13 (by decide) ?_
    refine go_iret dLaw_feed_14 rfl rfl ?_ (Nat.le_of_ble_eq_true rfl) (Nat.le_of_ble_eq_true rfl)
    exact retL_x (k := 1) e rfl (by decide) hP hS hu hux
  · refine go_aload_n dLaw_feed_0 rfl ?_
    refine go_iconst (v := 0) dLaw_feed_1 (by decide) ?_
    refine go_aload_n dLaw_feed_2 rfl ?_
    refine go_iload_n dLaw_feed_3 rfl ?_
    refine go_virtFT dLaw_feed_4 ok_mPF_feed im_mPF_feed se_mPF_feed qm_Law_49 hA.1 (o_feed hA hS0) e (fun hx dx hP hS => ?_) (hnp := np_mPF_feed)
    refine got_catch [(0, 9, 12, 13)] (0, 9, 15, 21) [] (by decide) rfl ⟨⟨by decide, by decide⟩, by decide⟩ qh_Law_21 (List.forall_mem_cons.mpr ⟨⟨⟨by decide, by decide⟩, by decide, 1, by decide, by decide, qh_Law_13⟩, (fun _ q => absurd q List.not_mem_nil)⟩) (fun exc => ?_)
    refine go_astore_n dLaw_feed_15 ?_
    refine go_iconst (v := 2) dLaw_feed_16 (by decide) ?_
    refine go_iret dLaw_feed_17 rfl rfl ?_ (Nat.le_of_ble_eq_true rfl) (Nat.le_of_ble_eq_true rfl)
    exact retL_x (k := 2) e rfl (by decide) hP hS hu hux
set_option maxHeartbeats 4000000 in
theorem h_pass {E : pmEv} {h : pmH} {x u : Nat} {α : aPF} {f : Nat → Int64} {a1 a2 : Int32} (hA : PFA h x α) (hu : h u = some (pmJ 1 f)) (hux : u < x ∨ x + 31 ≤ u) (hS0 : SA E h x) : Call E mLaw_pass [.ref x, .int a1, .int a2, .ref u] h none 4 24 (RetL x u h [0, 2, 1, 3] (paF α a1 a2)) := by
  refine call_of (L := [some (.ref x), some (.int a1), some (.int a2), some (.ref u), none]) ok_mLaw_pass (Nat.le_of_ble_eq_true rfl) ?_
  rcases (sh_pass (α := α) (a1 := a1) (a2 := a2)) with ⟨w, e⟩ | e | e | e
  · refine go_aload_n dLaw_pass_0 rfl ?_
    refine go_iconst (v := 0) dLaw_pass_1 (by decide) ?_
    refine go_aload_n dLaw_pass_2 rfl ?_
    refine go_iload_n dLaw_pass_3 rfl ?_
    refine go_iload_n dLaw_pass_4 rfl ?_
    refine go_virtF dLaw_pass_5 ok_mPF_pass im_mPF_pass se_mPF_pass qm_Law_52 hA.1 (o_pass hA hS0) e (fun hx dx hP hS => ?_) (hnp := np_mPF_pass)
    refine go_i2l dLaw_pass_8 ?_
    refine go_last dLaw_pass_9 ((hS _ hux).trans hu) (by exact vp_in_nI (n := 0) (by omega) (by omega)) rfl ?_
    refine go_goto (tgt := 25) dLaw_pass_10 ?_
    refine go_iconst (v := 0) dLaw_pass_25 (by decide) ?_
    refine go_iret dLaw_pass_26 rfl rfl ?_ (Nat.le_of_ble_eq_true rfl) (Nat.le_of_ble_eq_true rfl)
    exact retL_v e hP hS hu hux
  · refine go_aload_n dLaw_pass_0 rfl ?_
    refine go_iconst (v := 0) dLaw_pass_1 (by decide) ?_
    refine go_aload_n dLaw_pass_2 rfl ?_
    refine go_iload_n dLaw_pass_3 rfl ?_
    refine go_iload_n dLaw_pass_4 rfl ?_
    refine go_virtFT dLaw_pass_5 ok_mPF_pass im_mPF_pass se_mPF_pass qm_Law_52 hA.1 (o_pass hA hS0) e (fun hx dx hP hS => ?_) (hnp := np_mPF_pass)
    refine got_catch [] (0, 10, 13, 26) [(0, 10, 17, 13), (0, 10, 21, 21)] (by decide) rfl ⟨⟨by decide, by decide⟩, by decide⟩ qh_Law_26 (fun _ q => absurd q List.not_mem_nil) (fun exc => ?_)
    refine go_astore dLaw_pass_13 ?_
    refine go_iconst (v := 1) dLaw_pass_15 (by decide) ?_
    refine go_iret dLaw_pass_16 rfl rfl ?_ (Nat.le_of_ble_eq_true rfl) (Nat.le_of_ble_eq_true rfl)
    exact retL_x (k := 1) e rfl (by decide) hP hS hu hux
  · refine go_aload_n dLaw_pass_0 rfl ?_
    refine go_iconst (v := 0) dLaw_pass_1 (by decide) ?_
    refine go_aload_n dLaw_pass_2 rfl ?_
    refine go_iload_n dLaw_pass_3 rfl ?_
    refine go_iload_n dLaw_pass_4 rfl ?_
    refine go_virtFT dLaw_pass_5 ok_mPF_pass im_mPF_pass se_mPF_pass qm_Law_52 hA.1 (o_pass hA hS0) e (fun hx dx hP hS => ?_) (hnp := np_mPF_pass)
    refine got_catch [(0, 10, 13, 26)] (0, 10, 17, 13) [(0, 10, 21, 21)] (by decide) rfl ⟨⟨by decide, by decide⟩, by decide⟩ qh_Law_13 (List.forall_mem_cons.mpr ⟨⟨⟨by decide, by decide⟩, by decide, 2, by decide, by decide, qh_Law_26⟩, (fun _ q => absurd q List.not_mem_nil)⟩) (fun exc => ?_)
    refine go_astore dLaw_pass_17 ?_
    refine go_iconst (v := 2) dLaw_pass_19 (by decide) ?_
    refine go_iret dLaw_pass_20 rfl rfl ?_ (Nat.le_of_ble_eq_true rfl) (Nat.le_of_ble_eq_true rfl)
    exact retL_x (k := 2) e rfl (by decide) hP hS hu hux
  · refine go_aload_n dLaw_pass_0 rfl ?_
    refine go_iconst (v := 0) dLaw_pass_1 (by decide) ?_
    refine go_aload_n dLaw_pass_2 rfl ?_
    refine go_iload_n dLaw_pass_3 rfl ?_
    refine go_iload_n dLaw_pass_4 rfl ?_
    refine go_virtFT dLaw_pass_5 ok_mPF_pass im_mPF_pass se_mPF_pass qm_Law_52 hA.1 (o_pass hA hS0) e (fun hx dx hP hS => ?_) (hnp := np_mPF_pass)
    refine got_catch [(0, 10, 13, 26), (0, 10, 17, 13)] (0, 10, 21, 21) [] (by decide) rfl ⟨⟨by decide, by decide⟩, by decide⟩ qh_Law_21 (List.forall_mem_cons.mpr ⟨⟨⟨by decide, by decide⟩, by decide, 2, by decide, by decide, qh_Law_26⟩, (List.forall_mem_cons.mpr ⟨⟨⟨by decide, by decide⟩, by decide, 1, by decide, by decide, qh_Law_13⟩, (fun _ q => absurd q List.not_mem_nil)⟩)⟩) (fun exc => ?_)
    refine go_astore dLaw_pass_21 ?_
    refine go_iconst (v := 3) dLaw_pass_23 (by decide) ?_
    refine go_iret dLaw_pass_24 rfl rfl ?_ (Nat.le_of_ble_eq_true rfl) (Nat.le_of_ble_eq_true rfl)
    exact retL_x (k := 3) e rfl (by decide) hP hS hu hux
set_option maxHeartbeats 4000000 in
theorem h_alter {E : pmEv} {h : pmH} {x u : Nat} {α : aPF} {f : Nat → Int64} {a1 a2 a3 : Int32} (hA : PFA h x α) (hu : h u = some (pmJ 1 f)) (hux : u < x ∨ x + 31 ≤ u) (hS0 : SA E h x) : Call E mLaw_alter [.ref x, .int a1, .int a2, .int a3, .ref u] h none 4 24 (RetL x u h [0, 2, 1] (alF α a1 a2 a3)) := by
  refine call_of (L := [some (.ref x), some (.int a1), some (.int a2), some (.int a3), some (.ref u), none]) ok_mLaw_alter (Nat.le_of_ble_eq_true rfl) ?_
  rcases (sh_alter (α := α) (a1 := a1) (a2 := a2) (a3 := a3)) with ⟨w, e⟩ | e | e
  · refine go_aload dLaw_alter_0 rfl ?_
    refine go_iconst (v := 0) dLaw_alter_2 (by decide) ?_
    refine go_aload_n dLaw_alter_3 rfl ?_
    refine go_iload_n dLaw_alter_4 rfl ?_
    refine go_iload_n dLaw_alter_5 rfl ?_
    refine go_iload_n dLaw_alter_6 rfl ?_
    refine go_virtF dLaw_alter_7 ok_mPF_alter im_mPF_alter se_mPF_alter qm_Law_55 hA.1 (o_alter hA hS0) e (fun hx dx hP hS => ?_) (hnp := np_mPF_alter)
    refine go_i2l dLaw_alter_10 ?_
    refine go_last dLaw_alter_11 ((hS _ hux).trans hu) (by exact vp_in_nI (n := 0) (by omega) (by omega)) rfl ?_
    refine go_goto (tgt := 23) dLaw_alter_12 ?_
    refine go_iconst (v := 0) dLaw_alter_23 (by decide) ?_
    refine go_iret dLaw_alter_24 rfl rfl ?_ (Nat.le_of_ble_eq_true rfl) (Nat.le_of_ble_eq_true rfl)
    exact retL_v e hP hS hu hux
  · refine go_aload dLaw_alter_0 rfl ?_
    refine go_iconst (v := 0) dLaw_alter_2 (by decide) ?_
    refine go_aload_n dLaw_alter_3 rfl ?_
    refine go_iload_n dLaw_alter_4 rfl ?_
    refine go_iload_n dLaw_alter_5 rfl ?_
    refine go_iload_n dLaw_alter_6 rfl ?_
    refine go_virtFT dLaw_alter_7 ok_mPF_alter im_mPF_alter se_mPF_alter qm_Law_55 hA.1 (o_alter hA hS0) e (fun hx dx hP hS => ?_) (hnp := np_mPF_alter)
    refine got_catch [] (0, 12, 15, 26) [(0, 12, 19, 13)] (by decide) rfl ⟨⟨by decide, by decide⟩, by decide⟩ qh_Law_26 (fun _ q => absurd q List.not_mem_nil) (fun exc => ?_)
    refine go_astore dLaw_alter_15 ?_
    refine go_iconst (v := 1) dLaw_alter_17 (by decide) ?_
    refine go_iret dLaw_alter_18 rfl rfl ?_ (Nat.le_of_ble_eq_true rfl) (Nat.le_of_ble_eq_true rfl)
    exact retL_x (k := 1) e rfl (by decide) hP hS hu hux
  · refine go_aload dLaw_alter_0 rfl ?_
    refine go_iconst (v := 0) dLaw_alter_2 (by decide) ?_
    refine go_aload_n dLaw_alter_3 rfl ?_
    refine go_iload_n dLaw_alter_4 rfl ?_
    refine go_iload_n dLaw_alter_5 rfl ?_
    refine go_iload_n dLaw_alter_6 rfl ?_
    refine go_virtFT dLaw_alter_7 ok_mPF_alter im_mPF_alter se_mPF_alter qm_Law_55 hA.1 (o_alter hA hS0) e (fun hx dx hP hS => ?_) (hnp := np_mPF_alter)
    refine got_catch [(0, 12, 15, 26)] (0, 12, 19, 13) [] (by decide) rfl ⟨⟨by decide, by decide⟩, by decide⟩ qh_Law_13 (List.forall_mem_cons.mpr ⟨⟨⟨by decide, by decide⟩, by decide, 2, by decide, by decide, qh_Law_26⟩, (fun _ q => absurd q List.not_mem_nil)⟩) (fun exc => ?_)
    refine go_astore dLaw_alter_19 ?_
    refine go_iconst (v := 2) dLaw_alter_21 (by decide) ?_
    refine go_iret dLaw_alter_22 rfl rfl ?_ (Nat.le_of_ble_eq_true rfl) (Nat.le_of_ble_eq_true rfl)
    exact retL_x (k := 2) e rfl (by decide) hP hS hu hux
set_option maxHeartbeats 4000000 in
theorem h_at {E : pmEv} {h : pmH} {x u : Nat} {α : aPF} {f : Nat → Int64} {a1 a2 a3 : Int32} (hA : PFA h x α) (hu : h u = some (pmJ 1 f)) (hux : u < x ∨ x + 31 ≤ u) (hS0 : SA E h x) : Call E mLaw_at [.ref x, .int a1, .int a2, .int a3, .ref u] h none 4 24 (RetL x u h [1, 0, 2] (atF α a1 a2 a3)) := by
  refine call_of (L := [some (.ref x), some (.int a1), some (.int a2), some (.int a3), some (.ref u), none]) ok_mLaw_at (Nat.le_of_ble_eq_true rfl) ?_
  rcases (sh_at (α := α) (a1 := a1) (a2 := a2) (a3 := a3)) with ⟨w, e⟩ | e | e
  · refine go_aload dLaw_at_0 rfl ?_
    refine go_iconst (v := 0) dLaw_at_2 (by decide) ?_
    refine go_aload_n dLaw_at_3 rfl ?_
    refine go_iload_n dLaw_at_4 rfl ?_
    refine go_iload_n dLaw_at_5 rfl ?_
    refine go_iload_n dLaw_at_6 rfl ?_
    refine go_virtF dLaw_at_7 ok_mPF_at im_mPF_at se_mPF_at qm_Law_59 hA.1 (o_at hA hS0) e (fun hx dx hP hS => ?_) (hnp := np_mPF_at)
    refine go_i2l dLaw_at_10 ?_
    refine go_last dLaw_at_11 ((hS _ hux).trans hu) (by exact vp_in_nI (n := 0) (by omega) (by omega)) rfl ?_
    refine go_goto (tgt := 23) dLaw_at_12 ?_
    refine go_iconst (v := 0) dLaw_at_23 (by decide) ?_
    refine go_iret dLaw_at_24 rfl rfl ?_ (Nat.le_of_ble_eq_true rfl) (Nat.le_of_ble_eq_true rfl)
    exact retL_v e hP hS hu hux
  · refine go_aload dLaw_at_0 rfl ?_
    refine go_iconst (v := 0) dLaw_at_2 (by decide) ?_
    refine go_aload_n dLaw_at_3 rfl ?_
    refine go_iload_n dLaw_at_4 rfl ?_
    refine go_iload_n dLaw_at_5 rfl ?_
    refine go_iload_n dLaw_at_6 rfl ?_
    refine go_virtFT dLaw_at_7 ok_mPF_at im_mPF_at se_mPF_at qm_Law_59 hA.1 (o_at hA hS0) e (fun hx dx hP hS => ?_) (hnp := np_mPF_at)
    refine got_catch [] (0, 12, 15, 19) [(0, 12, 19, 26)] (by decide) rfl ⟨⟨by decide, by decide⟩, by decide⟩ qh_Law_19 (fun _ q => absurd q List.not_mem_nil) (fun exc => ?_)
    refine go_astore dLaw_at_15 ?_
    refine go_iconst (v := 1) dLaw_at_17 (by decide) ?_
    refine go_iret dLaw_at_18 rfl rfl ?_ (Nat.le_of_ble_eq_true rfl) (Nat.le_of_ble_eq_true rfl)
    exact retL_x (k := 1) e rfl (by decide) hP hS hu hux
  · refine go_aload dLaw_at_0 rfl ?_
    refine go_iconst (v := 0) dLaw_at_2 (by decide) ?_
    refine go_aload_n dLaw_at_3 rfl ?_
    refine go_iload_n dLaw_at_4 rfl ?_
    refine go_iload_n dLaw_at_5 rfl ?_
    refine go_iload_n dLaw_at_6 rfl ?_
    refine go_virtFT dLaw_at_7 ok_mPF_at im_mPF_at se_mPF_at qm_Law_59 hA.1 (o_at hA hS0) e (fun hx dx hP hS => ?_) (hnp := np_mPF_at)
    refine got_catch [(0, 12, 15, 19)] (0, 12, 19, 26) [] (by decide) rfl ⟨⟨by decide, by decide⟩, by decide⟩ qh_Law_26 (List.forall_mem_cons.mpr ⟨⟨⟨by decide, by decide⟩, by decide, 0, by decide, by decide, qh_Law_19⟩, (fun _ q => absurd q List.not_mem_nil)⟩) (fun exc => ?_)
    refine go_astore dLaw_at_19 ?_
    refine go_iconst (v := 2) dLaw_at_21 (by decide) ?_
    refine go_iret dLaw_at_22 rfl rfl ?_ (Nat.le_of_ble_eq_true rfl) (Nat.le_of_ble_eq_true rfl)
    exact retL_x (k := 2) e rfl (by decide) hP hS hu hux
set_option maxHeartbeats 4000000 in
theorem h_found {E : pmEv} {h : pmH} {x u : Nat} {α : aPF} {f : Nat → Int64} {a1 : Int32} (hA : PFA h x α) (hu : h u = some (pmJ 1 f)) (hux : u < x ∨ x + 31 ≤ u) (hS0 : SA E h x) : Call E mLaw_found [.ref x, .int a1, .ref u] h none 4 24 (RetL x u h [1] (foF α a1)) := by
  refine call_of (L := [some (.ref x), some (.int a1), some (.ref u), none]) ok_mLaw_found (Nat.le_of_ble_eq_true rfl) ?_
  rcases (sh_found (α := α) (a1 := a1)) with ⟨w, e⟩ | e
  · refine go_aload_n dLaw_found_0 rfl ?_
    refine go_iconst (v := 0) dLaw_found_1 (by decide) ?_
    refine go_aload_n dLaw_found_2 rfl ?_
    refine go_iload_n dLaw_found_3 rfl ?_
    refine go_virtF dLaw_found_4 ok_mPF_found im_mPF_found se_mPF_found qm_Law_63 hA.1 (o_found hA hS0) e (fun hx dx hP hS => ?_) (hnp := np_mPF_found)
    refine go_i2l dLaw_found_7 ?_
    refine go_last dLaw_found_8 ((hS _ hux).trans hu) (by exact vp_in_nI (n := 0) (by omega) (by omega)) rfl ?_
    refine go_goto (tgt := 15) dLaw_found_9 ?_
    refine go_iconst (v := 0) dLaw_found_15 (by decide) ?_
    refine go_iret dLaw_found_16 rfl rfl ?_ (Nat.le_of_ble_eq_true rfl) (Nat.le_of_ble_eq_true rfl)
    exact retL_v e hP hS hu hux
  · refine go_aload_n dLaw_found_0 rfl ?_
    refine go_iconst (v := 0) dLaw_found_1 (by decide) ?_
    refine go_aload_n dLaw_found_2 rfl ?_
    refine go_iload_n dLaw_found_3 rfl ?_
    refine go_virtFT dLaw_found_4 ok_mPF_found im_mPF_found se_mPF_found qm_Law_63 hA.1 (o_found hA hS0) e (fun hx dx hP hS => ?_) (hnp := np_mPF_found)
    refine got_catch [] (0, 9, 12, 19) [] (by decide) rfl ⟨⟨by decide, by decide⟩, by decide⟩ qh_Law_19 (fun _ q => absurd q List.not_mem_nil) (fun exc => ?_)
    refine go_astore_n dLaw_found_12 ?_
    refine go_iconst (v := 1) dLaw_found_13 (by decide) ?_
    refine go_iret dLaw_found_14 rfl rfl ?_ (Nat.le_of_ble_eq_true rfl) (Nat.le_of_ble_eq_true rfl)
    exact retL_x (k := 1) e rfl (by decide) hP hS hu hux
set_option maxHeartbeats 4000000 in
theorem h_entry {E : pmEv} {h : pmH} {x u : Nat} {α : aPF} {f : Nat → Int64} {a1 a2 : Int32} (hA : PFA h x α) (hu : h u = some (pmJ 1 f)) (hux : u < x ∨ x + 31 ≤ u) (hS0 : SA E h x) : Call E mLaw_entry [.ref x, .int a1, .int a2, .ref u] h none 4 24 (RetL x u h [1, 3, 2] (eyF α a1 a2)) := by
  refine call_of (L := [some (.ref x), some (.int a1), some (.int a2), some (.ref u), none]) ok_mLaw_entry (Nat.le_of_ble_eq_true rfl) ?_
  rcases (sh_entry (α := α) (a1 := a1) (a2 := a2)) with ⟨w, e⟩ | e | e | e
  · refine go_aload_n dLaw_entry_0 rfl ?_
    refine go_iconst (v := 0) dLaw_entry_1 (by decide) ?_
    refine go_aload_n dLaw_entry_2 rfl ?_
    refine go_iload_n dLaw_entry_3 rfl ?_
    refine go_iload_n dLaw_entry_4 rfl ?_
    refine go_virtF dLaw_entry_5 ok_mPF_entry im_mPF_entry se_mPF_entry qm_Law_66 hA.1 (o_entry hA hS0) e (fun hx dx hP hS => ?_) (hnp := np_mPF_entry)
    refine go_i2l dLaw_entry_8 ?_
    refine go_last dLaw_entry_9 ((hS _ hux).trans hu) (by exact vp_in_nI (n := 0) (by omega) (by omega)) rfl ?_
    refine go_goto (tgt := 25) dLaw_entry_10 ?_
    refine go_iconst (v := 0) dLaw_entry_25 (by decide) ?_
    refine go_iret dLaw_entry_26 rfl rfl ?_ (Nat.le_of_ble_eq_true rfl) (Nat.le_of_ble_eq_true rfl)
    exact retL_v e hP hS hu hux
  · refine go_aload_n dLaw_entry_0 rfl ?_
    refine go_iconst (v := 0) dLaw_entry_1 (by decide) ?_
    refine go_aload_n dLaw_entry_2 rfl ?_
    refine go_iload_n dLaw_entry_3 rfl ?_
    refine go_iload_n dLaw_entry_4 rfl ?_
    refine go_virtFT dLaw_entry_5 ok_mPF_entry im_mPF_entry se_mPF_entry qm_Law_66 hA.1 (o_entry hA hS0) e (fun hx dx hP hS => ?_) (hnp := np_mPF_entry)
    refine got_catch [] (0, 10, 13, 19) [(0, 10, 17, 26), (0, 10, 21, 13)] (by decide) rfl ⟨⟨by decide, by decide⟩, by decide⟩ qh_Law_19 (fun _ q => absurd q List.not_mem_nil) (fun exc => ?_)
    refine go_astore dLaw_entry_13 ?_
    refine go_iconst (v := 1) dLaw_entry_15 (by decide) ?_
    refine go_iret dLaw_entry_16 rfl rfl ?_ (Nat.le_of_ble_eq_true rfl) (Nat.le_of_ble_eq_true rfl)
    exact retL_x (k := 1) e rfl (by decide) hP hS hu hux
  · refine go_aload_n dLaw_entry_0 rfl ?_
    refine go_iconst (v := 0) dLaw_entry_1 (by decide) ?_
    refine go_aload_n dLaw_entry_2 rfl ?_
    refine go_iload_n dLaw_entry_3 rfl ?_
    refine go_iload_n dLaw_entry_4 rfl ?_
    refine go_virtFT dLaw_entry_5 ok_mPF_entry im_mPF_entry se_mPF_entry qm_Law_66 hA.1 (o_entry hA hS0) e (fun hx dx hP hS => ?_) (hnp := np_mPF_entry)
    refine got_catch [(0, 10, 13, 19)] (0, 10, 17, 26) [(0, 10, 21, 13)] (by decide) rfl ⟨⟨by decide, by decide⟩, by decide⟩ qh_Law_26 (List.forall_mem_cons.mpr ⟨⟨⟨by decide, by decide⟩, by decide, 0, by decide, by decide, qh_Law_19⟩, (fun _ q => absurd q List.not_mem_nil)⟩) (fun exc => ?_)
    refine go_astore dLaw_entry_17 ?_
    refine go_iconst (v := 2) dLaw_entry_19 (by decide) ?_
    refine go_iret dLaw_entry_20 rfl rfl ?_ (Nat.le_of_ble_eq_true rfl) (Nat.le_of_ble_eq_true rfl)
    exact retL_x (k := 2) e rfl (by decide) hP hS hu hux
  · refine go_aload_n dLaw_entry_0 rfl ?_
    refine go_iconst (v := 0) dLaw_entry_1 (by decide) ?_
    refine go_aload_n dLaw_entry_2 rfl ?_
    refine go_iload_n dLaw_entry_3 rfl ?_
    refine go_iload_n dLaw_entry_4 rfl ?_
    refine go_virtFT dLaw_entry_5 ok_mPF_entry im_mPF_entry se_mPF_entry qm_Law_66 hA.1 (o_entry hA hS0) e (fun hx dx hP hS => ?_) (hnp := np_mPF_entry)
    refine got_catch [(0, 10, 13, 19), (0, 10, 17, 26)] (0, 10, 21, 13) [] (by decide) rfl ⟨⟨by decide, by decide⟩, by decide⟩ qh_Law_13 (List.forall_mem_cons.mpr ⟨⟨⟨by decide, by decide⟩, by decide, 0, by decide, by decide, qh_Law_19⟩, (List.forall_mem_cons.mpr ⟨⟨⟨by decide, by decide⟩, by decide, 2, by decide, by decide, qh_Law_26⟩, (fun _ q => absurd q List.not_mem_nil)⟩)⟩) (fun exc => ?_)
    refine go_astore dLaw_entry_21 ?_
    refine go_iconst (v := 3) dLaw_entry_23 (by decide) ?_
    refine go_iret dLaw_entry_24 rfl rfl ?_ (Nat.le_of_ble_eq_true rfl) (Nat.le_of_ble_eq_true rfl)
    exact retL_x (k := 3) e rfl (by decide) hP hS hu hux
set_option maxHeartbeats 4000000 in
theorem h_unknown {E : pmEv} {h : pmH} {x u : Nat} {α : aPF} {f : Nat → Int64} {a1 a2 : Int32} (hA : PFA h x α) (hu : h u = some (pmJ 1 f)) (hux : u < x ∨ x + 31 ≤ u) (hS0 : SA E h x) : Call E mLaw_unknown [.ref x, .int a1, .int a2, .ref u] h none 4 24 (RetL x u h [1, 0, 2] (unF α a1 a2)) := by
  refine call_of (L := [some (.ref x), some (.int a1), some (.int a2), some (.ref u), none]) ok_mLaw_unknown (Nat.le_of_ble_eq_true rfl) ?_
  rcases (sh_unknown (α := α) (a1 := a1) (a2 := a2)) with ⟨w, e⟩ | e | e
  · refine go_aload_n dLaw_unknown_0 rfl ?_
    refine go_iconst (v := 0) dLaw_unknown_1 (by decide) ?_
    refine go_aload_n dLaw_unknown_2 rfl ?_
    refine go_iload_n dLaw_unknown_3 rfl ?_
    refine go_iload_n dLaw_unknown_4 rfl ?_
    refine go_virtF dLaw_unknown_5 ok_mPF_unknown im_mPF_unknown se_mPF_unknown qm_Law_69 hA.1 (o_unknown hA hS0) e (fun hx dx hP hS => ?_) (hnp := np_mPF_unknown)
    refine go_i2l dLaw_unknown_8 ?_
    refine go_last dLaw_unknown_9 ((hS _ hux).trans hu) (by exact vp_in_nI (n := 0) (by omega) (by omega)) rfl ?_
    refine go_goto (tgt := 21) dLaw_unknown_10 ?_
    refine go_iconst (v := 0) dLaw_unknown_21 (by decide) ?_
    refine go_iret dLaw_unknown_22 rfl rfl ?_ (Nat.le_of_ble_eq_true rfl) (Nat.le_of_ble_eq_true rfl)
    exact retL_v e hP hS hu hux
  · refine go_aload_n dLaw_unknown_0 rfl ?_
    refine go_iconst (v := 0) dLaw_unknown_1 (by decide) ?_
    refine go_aload_n dLaw_unknown_2 rfl ?_
    refine go_iload_n dLaw_unknown_3 rfl ?_
    refine go_iload_n dLaw_unknown_4 rfl ?_
    refine go_virtFT dLaw_unknown_5 ok_mPF_unknown im_mPF_unknown se_mPF_unknown qm_Law_69 hA.1 (o_unknown hA hS0) e (fun hx dx hP hS => ?_) (hnp := np_mPF_unknown)
    refine got_catch [] (0, 10, 13, 19) [(0, 10, 17, 26)] (by decide) rfl ⟨⟨by decide, by decide⟩, by decide⟩ qh_Law_19 (fun _ q => absurd q List.not_mem_nil) (fun exc => ?_)
    refine go_astore dLaw_unknown_13 ?_
    refine go_iconst (v := 1) dLaw_unknown_15 (by decide) ?_
    refine go_iret dLaw_unknown_16 rfl rfl ?_ (Nat.le_of_ble_eq_true rfl) (Nat.le_of_ble_eq_true rfl)
    exact retL_x (k := 1) e rfl (by decide) hP hS hu hux
  · refine go_aload_n dLaw_unknown_0 rfl ?_
    refine go_iconst (v := 0) dLaw_unknown_1 (by decide) ?_
    refine go_aload_n dLaw_unknown_2 rfl ?_
    refine go_iload_n dLaw_unknown_3 rfl ?_
    refine go_iload_n dLaw_unknown_4 rfl ?_
    refine go_virtFT dLaw_unknown_5 ok_mPF_unknown im_mPF_unknown se_mPF_unknown qm_Law_69 hA.1 (o_unknown hA hS0) e (fun hx dx hP hS => ?_) (hnp := np_mPF_unknown)
    refine got_catch [(0, 10, 13, 19)] (0, 10, 17, 26) [] (by decide) rfl ⟨⟨by decide, by decide⟩, by decide⟩ qh_Law_26 (List.forall_mem_cons.mpr ⟨⟨⟨by decide, by decide⟩, by decide, 0, by decide, by decide, qh_Law_19⟩, (fun _ q => absurd q List.not_mem_nil)⟩) (fun exc => ?_)
    refine go_astore dLaw_unknown_17 ?_
    refine go_iconst (v := 2) dLaw_unknown_19 (by decide) ?_
    refine go_iret dLaw_unknown_20 rfl rfl ?_ (Nat.le_of_ble_eq_true rfl) (Nat.le_of_ble_eq_true rfl)
    exact retL_x (k := 2) e rfl (by decide) hP hS hu hux
set_option maxHeartbeats 4000000 in
theorem h_take {E : pmEv} {h : pmH} {x : Nat} {α : aPF} (hA : PFA h x α) (hS0 : SA E h x) : Call E mLaw_take [.ref x] h none 4 24 (RetL0 x h [1] (taF α)) := by
  refine call_of (L := [some (.ref x), none]) ok_mLaw_take (Nat.le_of_ble_eq_true rfl) ?_
  rcases (sh_take (α := α)) with e | e
  · refine go_aload_n dLaw_take_0 rfl ?_
    refine go_virtF dLaw_take_1 ok_mPF_take im_mPF_take se_mPF_take qm_Law_72 hA.1 (o_take hA hS0) e (fun hx dx hP hS => ?_) (hnp := np_mPF_take)
    refine go_goto (tgt := 10) dLaw_take_4 ?_
    refine go_iconst (v := 0) dLaw_take_10 (by decide) ?_
    refine go_iret dLaw_take_11 rfl rfl ?_ (Nat.le_of_ble_eq_true rfl) (Nat.le_of_ble_eq_true rfl)
    exact retL0_v e hP hS
  · refine go_aload_n dLaw_take_0 rfl ?_
    refine go_virtFT dLaw_take_1 ok_mPF_take im_mPF_take se_mPF_take qm_Law_72 hA.1 (o_take hA hS0) e (fun hx dx hP hS => ?_) (hnp := np_mPF_take)
    refine got_catch [] (0, 4, 7, 19) [] (by decide) rfl ⟨⟨by decide, by decide⟩, by decide⟩ qh_Law_19 (fun _ q => absurd q List.not_mem_nil) (fun exc => ?_)
    refine go_astore_n dLaw_take_7 ?_
    refine go_iconst (v := 1) dLaw_take_8 (by decide) ?_
    refine go_iret dLaw_take_9 rfl rfl ?_ (Nat.le_of_ble_eq_true rfl) (Nat.le_of_ble_eq_true rfl)
    exact retL0_x (k := 1) e rfl (by decide) hP hS
