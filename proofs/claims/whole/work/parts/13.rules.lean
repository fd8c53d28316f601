/-! ===== plain answers; rules that are easier to use ===== -/
/-- it answers v in the state S' -/
def Ret (v : Option Value) (S' : pmS) : pmA → pmS → Prop := fun o S => o = .inl v ∧ S = S'
def bI (p : Prop) [Decidable p] : Int32 := if p then 1 else 0
theorem bI_0 {p : Prop} [Decidable p] : bI p = 0 ↔ ¬ p := by
  unfold bI
  by_cases h : p <;> simp [h]
theorem bI_t {p : Prop} [Decidable p] (h : p) : bI p = 1 := by simp [bI, h]
theorem bI_f {p : Prop} [Decidable p] (h : ¬ p) : bI p = 0 := by simp [bI, h]
theorem bI_n {p : Prop} [Decidable p] : narrow .boolean (.int (bI p)) = .int (bI p) := by
  unfold bI
  by_cases h : p <;> simp [h] <;> rfl
theorem bI_c {p q : Prop} [Decidable p] [Decidable q] (h : p ↔ q) : bI p = bI q := by
  unfold bI
  by_cases hp : p
  · simp [hp, h.mp hp]
  · simp [hp, fun hq => hp (h.mpr hq)]
section PR
variable {E : pmEv} {F : pmFr} {pc : Nat} {L : pmL} {st : List Value} {S : pmS} {k n : Nat} {Q : pmA → pmS → Prop}
theorem go_ifeq_b {p : Prop} [Decidable p] {off : Int} {tgt pc' : Nat} (hd : decode F.1.2.1 pc = .ok (.ifCond .eq off, 3)) (kt : ¬ p → Go E F tgt L st S k n Q) (kf : p → Go E F pc' L st S k n Q) (ht : (pc : Int) + off = (tgt : Int) := by decide) (hp : pc + 3 = pc' := by rfl) : Go E F pc L (.int (bI p) :: st) S k n Q :=
  go_if_eq hd (fun h => kt (bI_0.mp h)) (fun h => kf (Classical.byContradiction fun q => h (bI_0.mpr q))) ht hp
theorem go_ifne_b {p : Prop} [Decidable p] {off : Int} {tgt pc' : Nat} (hd : decode F.1.2.1 pc = .ok (.ifCond .ne off, 3)) (kt : p → Go E F tgt L st S k n Q) (kf : ¬ p → Go E F pc' L st S k n Q) (ht : (pc : Int) + off = (tgt : Int) := by decide) (hp : pc + 3 = pc' := by rfl) : Go E F pc L (.int (bI p) :: st) S k n Q :=
  go_if_ne hd (fun h => kt (Classical.byContradiction fun q => h (bI_0.mpr q))) (fun h => kf (bI_0.mp h)) ht hp
theorem go_virtR {x b ci : Nat} {fs : List Value} {r : vw_C} {M : pmMeth} {vs rest st0 : List Value} {v : Option Value} {S' : pmS} {pc' : Nat} (hd : decode F.1.2.1 pc = .ok (.invokevirtual x, 3)) (hok : pmOk M) (him : Cond.instanceMethod M.1 ∈ pmW) (hse : Cond.selects M.1.cls M.1 M.1 ∈ pmW) (hl : Cond.methodLink F.1.1.cls x M.1 ∈ pmW) (hb : S.1 b = some (pmO ci fs)) (hC : Call E M (.ref b :: vs) S.1 S.2.1 0 0 (Ret v S'))
    (h : Go E F pc' L (v.toList ++ rest) (S'.1, S'.2.1, S.2.2 || S'.2.2) k n Q)
    (hr : pmCl[ci]? = some r := by rfl) (hrc : r.1 = M.1.cls := by rfl) (hs0 : st0 = vs.reverse ++ .ref b :: rest := by rfl) (hnp : (parseMethodDescriptor M.1.desc).map (fun d => d.parameters.length) = some vs.length := by decide +kernel) (hfr : M.2.2.2.2.2.2.2.1 + 1 ≤ F.1.2.2.2.2.2.2.2.1 := by decide) (hlo : 8 + (M.2.2.1 + 11) + M.2.2.2.2.2.2.2.2 ≤ F.1.2.2.2.2.2.2.2.2 := by decide) (hcl : k ≤ F.2.2.1 := by decide) (hsl : n ≤ F.2.2.2 := by decide) (hW : (rest.map fun v => v.category).sum ≤ 8 := by decide) (hp : pc + 3 = pc' := by rfl) : Go E F pc L st0 S k n Q :=
  go_virt hd hok him hse hl hb hC (fun v' S'' hq => by obtain ⟨h1, h2⟩ := hq; cases h1; cases h2; exact h) (fun x S'' hq => by obtain ⟨h1, -⟩ := hq; cases h1) hr hrc hs0 hnp hfr hlo hcl hsl hW hp
theorem go_statR {x : Nat} {M : pmMeth} {vs rest st0 : List Value} {v : Option Value} {S' : pmS} {pc' : Nat} (hd : decode F.1.2.1 pc = .ok (.invokestatic x, 3)) (hok : pmOk M) (hst : Cond.static M.1 ∈ pmW) (hl : Cond.methodLink F.1.1.cls x M.1 ∈ pmW) (hC : Call E M vs S.1 S.2.1 0 0 (Ret v S'))
    (h : Go E F pc' L (v.toList ++ rest) (S'.1, S'.2.1, S.2.2 || S'.2.2) k n Q)
    (hs0 : st0 = vs.reverse ++ rest := by rfl) (hnp : (parseMethodDescriptor M.1.desc).map (fun d => d.parameters.length) = some vs.length := by decide +kernel) (hfr : M.2.2.2.2.2.2.2.1 + 1 ≤ F.1.2.2.2.2.2.2.2.1 := by decide) (hlo : 8 + (M.2.2.1 + 11) + M.2.2.2.2.2.2.2.2 ≤ F.1.2.2.2.2.2.2.2.2 := by decide) (hcl : k ≤ F.2.2.1 := by decide) (hsl : n ≤ F.2.2.2 := by decide) (hW : (rest.map fun v => v.category).sum ≤ 8 := by decide) (hp : pc + 3 = pc' := by rfl) : Go E F pc L st0 S k n Q :=
  go_stat hd hok hst hl hC (fun v' S'' hq => by obtain ⟨h1, h2⟩ := hq; cases h1; cases h2; exact h) (fun x S'' hq => by obtain ⟨h1, -⟩ := hq; cases h1) hs0 hnp hfr hlo hcl hsl hW hp
end PR
theorem pmNe {h : pmH} {a b : Nat} {c d : pmC} (h1 : h a = some c) (h2 : h b = some d) (hc : c ≠ d) : a ≠ b := fun e => hc (by subst e; exact Option.some.inj (h1.symm.trans h2))
theorem bI_fit {p : Prop} [Decidable p] : fits .boolean (.int (bI p)) = true := by
  unfold bI
  by_cases h : p <;> simp [h] <;> rfl
theorem pw_0_0 : ∀ r : vw_C, pmCl[0]? = some r → (r.2.1 0).2.2.2 = true ∧ (r.2.1 0).1 = "PortableFiles$Bytes" ∧ parseFieldDescriptor (r.2.1 0).2.2.1 = some (.array .int) := fun r hr => by cases hr; exact ⟨rfl, rfl, by decide +kernel⟩
theorem pw_0_1 : ∀ r : vw_C, pmCl[0]? = some r → (r.2.1 1).2.2.2 = false ∧ parseFieldDescriptor (r.2.1 1).2.2.1 = some (.int) := fun r hr => by cases hr; exact ⟨rfl, by decide +kernel⟩
theorem pw_1_0 : ∀ r : vw_C, pmCl[1]? = some r → (r.2.1 0).2.2.2 = true ∧ (r.2.1 0).1 = "PortableFiles$Extras" ∧ parseFieldDescriptor (r.2.1 0).2.2.1 = some (.array .int) := fun r hr => by cases hr; exact ⟨rfl, rfl, by decide +kernel⟩
theorem pw_1_1 : ∀ r : vw_C, pmCl[1]? = some r → (r.2.1 1).2.2.2 = true ∧ (r.2.1 1).1 = "PortableFiles$Extras" ∧ parseFieldDescriptor (r.2.1 1).2.2.1 = some (.array .int) := fun r hr => by cases hr; exact ⟨rfl, rfl, by decide +kernel⟩
theorem pw_1_2 : ∀ r : vw_C, pmCl[1]? = some r → (r.2.1 2).2.2.2 = true ∧ (r.2.1 2).1 = "PortableFiles$Extras" ∧ parseFieldDescriptor (r.2.1 2).2.2.1 = some (.array .int) := fun r hr => by cases hr; exact ⟨rfl, rfl, by decide +kernel⟩
theorem pw_1_3 : ∀ r : vw_C, pmCl[1]? = some r → (r.2.1 3).2.2.2 = false ∧ parseFieldDescriptor (r.2.1 3).2.2.1 = some (.int) := fun r hr => by cases hr; exact ⟨rfl, by decide +kernel⟩
theorem pw_2_0 : ∀ r : vw_C, pmCl[2]? = some r → (r.2.1 0).2.2.2 = true ∧ (r.2.1 0).1 = "PortableFiles$Palette" ∧ parseFieldDescriptor (r.2.1 0).2.2.1 = some (.array .int) := fun r hr => by cases hr; exact ⟨rfl, rfl, by decide +kernel⟩
theorem pw_2_1 : ∀ r : vw_C, pmCl[2]? = some r → (r.2.1 1).2.2.2 = false ∧ parseFieldDescriptor (r.2.1 1).2.2.1 = some (.int) := fun r hr => by cases hr; exact ⟨rfl, by decide +kernel⟩
theorem pw_3_0 : ∀ r : vw_C, pmCl[3]? = some r → (r.2.1 0).2.2.2 = true ∧ (r.2.1 0).1 = "PortableFiles$Picture" ∧ parseFieldDescriptor (r.2.1 0).2.2.1 = some (.object "PortableFiles$Palette") := fun r hr => by cases hr; exact ⟨rfl, rfl, by decide +kernel⟩
theorem pw_3_1 : ∀ r : vw_C, pmCl[3]? = some r → (r.2.1 1).2.2.2 = true ∧ (r.2.1 1).1 = "PortableFiles$Picture" ∧ parseFieldDescriptor (r.2.1 1).2.2.1 = some (.object "PortableFiles$Tags") := fun r hr => by cases hr; exact ⟨rfl, rfl, by decide +kernel⟩
theorem pw_3_2 : ∀ r : vw_C, pmCl[3]? = some r → (r.2.1 2).2.2.2 = true ∧ (r.2.1 2).1 = "PortableFiles$Picture" ∧ parseFieldDescriptor (r.2.1 2).2.2.1 = some (.object "PortableFiles$Extras") := fun r hr => by cases hr; exact ⟨rfl, rfl, by decide +kernel⟩
theorem pw_3_3 : ∀ r : vw_C, pmCl[3]? = some r → (r.2.1 3).2.2.2 = true ∧ (r.2.1 3).1 = "PortableFiles$Picture" ∧ parseFieldDescriptor (r.2.1 3).2.2.1 = some (.array .int) := fun r hr => by cases hr; exact ⟨rfl, rfl, by decide +kernel⟩
theorem pw_3_4 : ∀ r : vw_C, pmCl[3]? = some r → (r.2.1 4).2.2.2 = false ∧ parseFieldDescriptor (r.2.1 4).2.2.1 = some (.boolean) := fun r hr => by cases hr; exact ⟨rfl, by decide +kernel⟩
theorem pw_3_5 : ∀ r : vw_C, pmCl[3]? = some r → (r.2.1 5).2.2.2 = false ∧ parseFieldDescriptor (r.2.1 5).2.2.1 = some (.int) := fun r hr => by cases hr; exact ⟨rfl, by decide +kernel⟩
theorem pw_3_6 : ∀ r : vw_C, pmCl[3]? = some r → (r.2.1 6).2.2.2 = false ∧ parseFieldDescriptor (r.2.1 6).2.2.1 = some (.int) := fun r hr => by cases hr; exact ⟨rfl, by decide +kernel⟩
theorem pw_3_7 : ∀ r : vw_C, pmCl[3]? = some r → (r.2.1 7).2.2.2 = false ∧ parseFieldDescriptor (r.2.1 7).2.2.1 = some (.int) := fun r hr => by cases hr; exact ⟨rfl, by decide +kernel⟩
theorem pw_3_8 : ∀ r : vw_C, pmCl[3]? = some r → (r.2.1 8).2.2.2 = false ∧ parseFieldDescriptor (r.2.1 8).2.2.1 = some (.int) := fun r hr => by cases hr; exact ⟨rfl, by decide +kernel⟩
theorem pw_3_9 : ∀ r : vw_C, pmCl[3]? = some r → (r.2.1 9).2.2.2 = false ∧ parseFieldDescriptor (r.2.1 9).2.2.1 = some (.int) := fun r hr => by cases hr; exact ⟨rfl, by decide +kernel⟩
theorem pw_4_0 : ∀ r : vw_C, pmCl[4]? = some r → (r.2.1 0).2.2.2 = true ∧ (r.2.1 0).1 = "PortableFiles$Reading" ∧ parseFieldDescriptor (r.2.1 0).2.2.1 = some (.object "PortableFiles$Bytes") := fun r hr => by cases hr; exact ⟨rfl, rfl, by decide +kernel⟩
theorem pw_4_1 : ∀ r : vw_C, pmCl[4]? = some r → (r.2.1 1).2.2.2 = true ∧ (r.2.1 1).1 = "PortableFiles$Reading" ∧ parseFieldDescriptor (r.2.1 1).2.2.1 = some (.object "PortableFiles$Picture") := fun r hr => by cases hr; exact ⟨rfl, rfl, by decide +kernel⟩
theorem pw_4_2 : ∀ r : vw_C, pmCl[4]? = some r → (r.2.1 2).2.2.2 = true ∧ (r.2.1 2).1 = "PortableFiles$Reading" ∧ parseFieldDescriptor (r.2.1 2).2.2.1 = some (.object "PortableFiles$Bytes") := fun r hr => by cases hr; exact ⟨rfl, rfl, by decide +kernel⟩
theorem pw_4_3 : ∀ r : vw_C, pmCl[4]? = some r → (r.2.1 3).2.2.2 = false ∧ parseFieldDescriptor (r.2.1 3).2.2.1 = some (.boolean) := fun r hr => by cases hr; exact ⟨rfl, by decide +kernel⟩
theorem pw_4_4 : ∀ r : vw_C, pmCl[4]? = some r → (r.2.1 4).2.2.2 = false ∧ parseFieldDescriptor (r.2.1 4).2.2.1 = some (.int) := fun r hr => by cases hr; exact ⟨rfl, by decide +kernel⟩
theorem pw_4_5 : ∀ r : vw_C, pmCl[4]? = some r → (r.2.1 5).2.2.2 = false ∧ parseFieldDescriptor (r.2.1 5).2.2.1 = some (.int) := fun r hr => by cases hr; exact ⟨rfl, by decide +kernel⟩
theorem pw_4_6 : ∀ r : vw_C, pmCl[4]? = some r → (r.2.1 6).2.2.2 = false ∧ parseFieldDescriptor (r.2.1 6).2.2.1 = some (.int) := fun r hr => by cases hr; exact ⟨rfl, by decide +kernel⟩
theorem pw_4_7 : ∀ r : vw_C, pmCl[4]? = some r → (r.2.1 7).2.2.2 = false ∧ parseFieldDescriptor (r.2.1 7).2.2.1 = some (.int) := fun r hr => by cases hr; exact ⟨rfl, by decide +kernel⟩
theorem pw_4_8 : ∀ r : vw_C, pmCl[4]? = some r → (r.2.1 8).2.2.2 = false ∧ parseFieldDescriptor (r.2.1 8).2.2.1 = some (.int) := fun r hr => by cases hr; exact ⟨rfl, by decide +kernel⟩
theorem pw_4_9 : ∀ r : vw_C, pmCl[4]? = some r → (r.2.1 9).2.2.2 = false ∧ parseFieldDescriptor (r.2.1 9).2.2.1 = some (.int) := fun r hr => by cases hr; exact ⟨rfl, by decide +kernel⟩
theorem pw_4_10 : ∀ r : vw_C, pmCl[4]? = some r → (r.2.1 10).2.2.2 = false ∧ parseFieldDescriptor (r.2.1 10).2.2.1 = some (.int) := fun r hr => by cases hr; exact ⟨rfl, by decide +kernel⟩
theorem pw_4_11 : ∀ r : vw_C, pmCl[4]? = some r → (r.2.1 11).2.2.2 = false ∧ parseFieldDescriptor (r.2.1 11).2.2.1 = some (.boolean) := fun r hr => by cases hr; exact ⟨rfl, by decide +kernel⟩
theorem pw_4_12 : ∀ r : vw_C, pmCl[4]? = some r → (r.2.1 12).2.2.2 = false ∧ parseFieldDescriptor (r.2.1 12).2.2.1 = some (.boolean) := fun r hr => by cases hr; exact ⟨rfl, by decide +kernel⟩
theorem pw_4_13 : ∀ r : vw_C, pmCl[4]? = some r → (r.2.1 13).2.2.2 = false ∧ parseFieldDescriptor (r.2.1 13).2.2.1 = some (.boolean) := fun r hr => by cases hr; exact ⟨rfl, by decide +kernel⟩
theorem pw_4_14 : ∀ r : vw_C, pmCl[4]? = some r → (r.2.1 14).2.2.2 = false ∧ parseFieldDescriptor (r.2.1 14).2.2.1 = some (.boolean) := fun r hr => by cases hr; exact ⟨rfl, by decide +kernel⟩
theorem pw_4_15 : ∀ r : vw_C, pmCl[4]? = some r → (r.2.1 15).2.2.2 = false ∧ parseFieldDescriptor (r.2.1 15).2.2.1 = some (.boolean) := fun r hr => by cases hr; exact ⟨rfl, by decide +kernel⟩
theorem pw_5_0 : ∀ r : vw_C, pmCl[5]? = some r → (r.2.1 0).2.2.2 = true ∧ (r.2.1 0).1 = "PortableFiles$Tags" ∧ parseFieldDescriptor (r.2.1 0).2.2.1 = some (.array .int) := fun r hr => by cases hr; exact ⟨rfl, rfl, by decide +kernel⟩
theorem pw_6_0 : ∀ r : vw_C, pmCl[6]? = some r → (r.2.1 0).2.2.2 = true ∧ (r.2.1 0).1 = "PortableFiles$Writing" ∧ parseFieldDescriptor (r.2.1 0).2.2.1 = some (.object "PortableFiles$Bytes") := fun r hr => by cases hr; exact ⟨rfl, rfl, by decide +kernel⟩
theorem pw_6_1 : ∀ r : vw_C, pmCl[6]? = some r → (r.2.1 1).2.2.2 = true ∧ (r.2.1 1).1 = "PortableFiles$Writing" ∧ parseFieldDescriptor (r.2.1 1).2.2.1 = some (.object "PortableFiles$Bytes") := fun r hr => by cases hr; exact ⟨rfl, rfl, by decide +kernel⟩
theorem pw_6_2 : ∀ r : vw_C, pmCl[6]? = some r → (r.2.1 2).2.2.2 = false ∧ parseFieldDescriptor (r.2.1 2).2.2.1 = some (.int) := fun r hr => by cases hr; exact ⟨rfl, by decide +kernel⟩
theorem pw_7_0 : ∀ r : vw_C, pmCl[7]? = some r → (r.2.1 0).2.2.2 = true ∧ (r.2.1 0).1 = "PortableFiles" ∧ parseFieldDescriptor (r.2.1 0).2.2.1 = some (.object "PortableFiles$Picture") := fun r hr => by cases hr; exact ⟨rfl, rfl, by decide +kernel⟩
theorem pw_7_1 : ∀ r : vw_C, pmCl[7]? = some r → (r.2.1 1).2.2.2 = true ∧ (r.2.1 1).1 = "PortableFiles" ∧ parseFieldDescriptor (r.2.1 1).2.2.1 = some (.object "PortableFiles$Writing") := fun r hr => by cases hr; exact ⟨rfl, rfl, by decide +kernel⟩
theorem pw_7_2 : ∀ r : vw_C, pmCl[7]? = some r → (r.2.1 2).2.2.2 = true ∧ (r.2.1 2).1 = "PortableFiles" ∧ parseFieldDescriptor (r.2.1 2).2.2.1 = some (.object "PortableFiles$Reading") := fun r hr => by cases hr; exact ⟨rfl, rfl, by decide +kernel⟩
theorem pw_8_0 : ∀ r : vw_C, pmCl[8]? = some r → (r.2.1 0).2.2.2 = false ∧ parseFieldDescriptor (r.2.1 0).2.2.1 = some (.int) := fun r hr => by cases hr; exact ⟨rfl, by decide +kernel⟩
theorem pw_8_1 : ∀ r : vw_C, pmCl[8]? = some r → (r.2.1 1).2.2.2 = false ∧ parseFieldDescriptor (r.2.1 1).2.2.1 = some (.boolean) := fun r hr => by cases hr; exact ⟨rfl, by decide +kernel⟩
theorem pw_8_2 : ∀ r : vw_C, pmCl[8]? = some r → (r.2.1 2).2.2.2 = false ∧ parseFieldDescriptor (r.2.1 2).2.2.1 = some (.int) := fun r hr => by cases hr; exact ⟨rfl, by decide +kernel⟩
theorem pw_8_3 : ∀ r : vw_C, pmCl[8]? = some r → (r.2.1 3).2.2.2 = false ∧ parseFieldDescriptor (r.2.1 3).2.2.1 = some (.int) := fun r hr => by cases hr; exact ⟨rfl, by decide +kernel⟩
theorem pw_8_4 : ∀ r : vw_C, pmCl[8]? = some r → (r.2.1 4).2.2.2 = false ∧ parseFieldDescriptor (r.2.1 4).2.2.1 = some (.int) := fun r hr => by cases hr; exact ⟨rfl, by decide +kernel⟩
theorem pw_8_5 : ∀ r : vw_C, pmCl[8]? = some r → (r.2.1 5).2.2.2 = false ∧ parseFieldDescriptor (r.2.1 5).2.2.1 = some (.int) := fun r hr => by cases hr; exact ⟨rfl, by decide +kernel⟩
theorem pw_8_6 : ∀ r : vw_C, pmCl[8]? = some r → (r.2.1 6).2.2.2 = true ∧ (r.2.1 6).1 = "PortableFilesModel" ∧ parseFieldDescriptor (r.2.1 6).2.2.1 = some (.array .int) := fun r hr => by cases hr; exact ⟨rfl, rfl, by decide +kernel⟩
theorem pw_8_7 : ∀ r : vw_C, pmCl[8]? = some r → (r.2.1 7).2.2.2 = false ∧ parseFieldDescriptor (r.2.1 7).2.2.1 = some (.int) := fun r hr => by cases hr; exact ⟨rfl, by decide +kernel⟩
theorem pw_8_8 : ∀ r : vw_C, pmCl[8]? = some r → (r.2.1 8).2.2.2 = true ∧ (r.2.1 8).1 = "PortableFilesModel" ∧ parseFieldDescriptor (r.2.1 8).2.2.1 = some (.array .int) := fun r hr => by cases hr; exact ⟨rfl, rfl, by decide +kernel⟩
theorem pw_8_9 : ∀ r : vw_C, pmCl[8]? = some r → (r.2.1 9).2.2.2 = true ∧ (r.2.1 9).1 = "PortableFilesModel" ∧ parseFieldDescriptor (r.2.1 9).2.2.1 = some (.array .int) := fun r hr => by cases hr; exact ⟨rfl, rfl, by decide +kernel⟩
theorem pw_8_10 : ∀ r : vw_C, pmCl[8]? = some r → (r.2.1 10).2.2.2 = false ∧ parseFieldDescriptor (r.2.1 10).2.2.1 = some (.int) := fun r hr => by cases hr; exact ⟨rfl, by decide +kernel⟩
theorem pw_8_11 : ∀ r : vw_C, pmCl[8]? = some r → (r.2.1 11).2.2.2 = true ∧ (r.2.1 11).1 = "PortableFilesModel" ∧ parseFieldDescriptor (r.2.1 11).2.2.1 = some (.array .int) := fun r hr => by cases hr; exact ⟨rfl, rfl, by decide +kernel⟩
theorem pw_8_12 : ∀ r : vw_C, pmCl[8]? = some r → (r.2.1 12).2.2.2 = true ∧ (r.2.1 12).1 = "PortableFilesModel" ∧ parseFieldDescriptor (r.2.1 12).2.2.1 = some (.array .int) := fun r hr => by cases hr; exact ⟨rfl, rfl, by decide +kernel⟩
theorem pw_8_13 : ∀ r : vw_C, pmCl[8]? = some r → (r.2.1 13).2.2.2 = true ∧ (r.2.1 13).1 = "PortableFilesModel" ∧ parseFieldDescriptor (r.2.1 13).2.2.1 = some (.array .int) := fun r hr => by cases hr; exact ⟨rfl, rfl, by decide +kernel⟩
theorem pw_8_14 : ∀ r : vw_C, pmCl[8]? = some r → (r.2.1 14).2.2.2 = false ∧ parseFieldDescriptor (r.2.1 14).2.2.1 = some (.boolean) := fun r hr => by cases hr; exact ⟨rfl, by decide +kernel⟩
theorem pw_8_15 : ∀ r : vw_C, pmCl[8]? = some r → (r.2.1 15).2.2.2 = false ∧ parseFieldDescriptor (r.2.1 15).2.2.1 = some (.int) := fun r hr => by cases hr; exact ⟨rfl, by decide +kernel⟩
theorem pw_8_16 : ∀ r : vw_C, pmCl[8]? = some r → (r.2.1 16).2.2.2 = false ∧ parseFieldDescriptor (r.2.1 16).2.2.1 = some (.int) := fun r hr => by cases hr; exact ⟨rfl, by decide +kernel⟩
theorem pw_8_17 : ∀ r : vw_C, pmCl[8]? = some r → (r.2.1 17).2.2.2 = false ∧ parseFieldDescriptor (r.2.1 17).2.2.1 = some (.int) := fun r hr => by cases hr; exact ⟨rfl, by decide +kernel⟩
theorem pw_8_18 : ∀ r : vw_C, pmCl[8]? = some r → (r.2.1 18).2.2.2 = false ∧ parseFieldDescriptor (r.2.1 18).2.2.1 = some (.int) := fun r hr => by cases hr; exact ⟨rfl, by decide +kernel⟩
theorem pw_8_19 : ∀ r : vw_C, pmCl[8]? = some r → (r.2.1 19).2.2.2 = true ∧ (r.2.1 19).1 = "PortableFilesModel" ∧ parseFieldDescriptor (r.2.1 19).2.2.1 = some (.array .int) := fun r hr => by cases hr; exact ⟨rfl, rfl, by decide +kernel⟩
theorem pw_8_20 : ∀ r : vw_C, pmCl[8]? = some r → (r.2.1 20).2.2.2 = false ∧ parseFieldDescriptor (r.2.1 20).2.2.1 = some (.int) := fun r hr => by cases hr; exact ⟨rfl, by decide +kernel⟩
theorem pw_8_21 : ∀ r : vw_C, pmCl[8]? = some r → (r.2.1 21).2.2.2 = true ∧ (r.2.1 21).1 = "PortableFilesModel" ∧ parseFieldDescriptor (r.2.1 21).2.2.1 = some (.array .int) := fun r hr => by cases hr; exact ⟨rfl, rfl, by decide +kernel⟩
theorem pw_8_22 : ∀ r : vw_C, pmCl[8]? = some r → (r.2.1 22).2.2.2 = true ∧ (r.2.1 22).1 = "PortableFilesModel" ∧ parseFieldDescriptor (r.2.1 22).2.2.1 = some (.array .int) := fun r hr => by cases hr; exact ⟨rfl, rfl, by decide +kernel⟩
theorem pw_8_23 : ∀ r : vw_C, pmCl[8]? = some r → (r.2.1 23).2.2.2 = false ∧ parseFieldDescriptor (r.2.1 23).2.2.1 = some (.int) := fun r hr => by cases hr; exact ⟨rfl, by decide +kernel⟩
theorem pw_8_24 : ∀ r : vw_C, pmCl[8]? = some r → (r.2.1 24).2.2.2 = true ∧ (r.2.1 24).1 = "PortableFilesModel" ∧ parseFieldDescriptor (r.2.1 24).2.2.1 = some (.array .int) := fun r hr => by cases hr; exact ⟨rfl, rfl, by decide +kernel⟩
theorem pw_8_25 : ∀ r : vw_C, pmCl[8]? = some r → (r.2.1 25).2.2.2 = true ∧ (r.2.1 25).1 = "PortableFilesModel" ∧ parseFieldDescriptor (r.2.1 25).2.2.1 = some (.array .int) := fun r hr => by cases hr; exact ⟨rfl, rfl, by decide +kernel⟩
theorem pw_8_26 : ∀ r : vw_C, pmCl[8]? = some r → (r.2.1 26).2.2.2 = true ∧ (r.2.1 26).1 = "PortableFilesModel" ∧ parseFieldDescriptor (r.2.1 26).2.2.1 = some (.array .int) := fun r hr => by cases hr; exact ⟨rfl, rfl, by decide +kernel⟩
theorem pw_8_27 : ∀ r : vw_C, pmCl[8]? = some r → (r.2.1 27).2.2.2 = false ∧ parseFieldDescriptor (r.2.1 27).2.2.1 = some (.int) := fun r hr => by cases hr; exact ⟨rfl, by decide +kernel⟩
theorem pw_8_28 : ∀ r : vw_C, pmCl[8]? = some r → (r.2.1 28).2.2.2 = false ∧ parseFieldDescriptor (r.2.1 28).2.2.1 = some (.int) := fun r hr => by cases hr; exact ⟨rfl, by decide +kernel⟩
theorem pw_8_29 : ∀ r : vw_C, pmCl[8]? = some r → (r.2.1 29).2.2.2 = true ∧ (r.2.1 29).1 = "PortableFilesModel" ∧ parseFieldDescriptor (r.2.1 29).2.2.1 = some (.array .int) := fun r hr => by cases hr; exact ⟨rfl, rfl, by decide +kernel⟩
theorem pw_8_30 : ∀ r : vw_C, pmCl[8]? = some r → (r.2.1 30).2.2.2 = false ∧ parseFieldDescriptor (r.2.1 30).2.2.1 = some (.int) := fun r hr => by cases hr; exact ⟨rfl, by decide +kernel⟩
theorem pw_8_31 : ∀ r : vw_C, pmCl[8]? = some r → (r.2.1 31).2.2.2 = true ∧ (r.2.1 31).1 = "PortableFilesModel" ∧ parseFieldDescriptor (r.2.1 31).2.2.1 = some (.array .int) := fun r hr => by cases hr; exact ⟨rfl, rfl, by decide +kernel⟩
theorem pw_8_32 : ∀ r : vw_C, pmCl[8]? = some r → (r.2.1 32).2.2.2 = false ∧ parseFieldDescriptor (r.2.1 32).2.2.1 = some (.int) := fun r hr => by cases hr; exact ⟨rfl, by decide +kernel⟩
theorem pw_8_33 : ∀ r : vw_C, pmCl[8]? = some r → (r.2.1 33).2.2.2 = false ∧ parseFieldDescriptor (r.2.1 33).2.2.1 = some (.int) := fun r hr => by cases hr; exact ⟨rfl, by decide +kernel⟩
theorem pw_8_34 : ∀ r : vw_C, pmCl[8]? = some r → (r.2.1 34).2.2.2 = true ∧ (r.2.1 34).1 = "PortableFilesModel" ∧ parseFieldDescriptor (r.2.1 34).2.2.1 = some (.array .int) := fun r hr => by cases hr; exact ⟨rfl, rfl, by decide +kernel⟩
theorem pw_8_35 : ∀ r : vw_C, pmCl[8]? = some r → (r.2.1 35).2.2.2 = false ∧ parseFieldDescriptor (r.2.1 35).2.2.1 = some (.int) := fun r hr => by cases hr; exact ⟨rfl, by decide +kernel⟩
theorem pw_8_36 : ∀ r : vw_C, pmCl[8]? = some r → (r.2.1 36).2.2.2 = false ∧ parseFieldDescriptor (r.2.1 36).2.2.1 = some (.boolean) := fun r hr => by cases hr; exact ⟨rfl, by decide +kernel⟩
theorem pw_8_37 : ∀ r : vw_C, pmCl[8]? = some r → (r.2.1 37).2.2.2 = false ∧ parseFieldDescriptor (r.2.1 37).2.2.1 = some (.boolean) := fun r hr => by cases hr; exact ⟨rfl, by decide +kernel⟩
theorem pw_8_38 : ∀ r : vw_C, pmCl[8]? = some r → (r.2.1 38).2.2.2 = false ∧ parseFieldDescriptor (r.2.1 38).2.2.1 = some (.boolean) := fun r hr => by cases hr; exact ⟨rfl, by decide +kernel⟩
theorem pw_8_39 : ∀ r : vw_C, pmCl[8]? = some r → (r.2.1 39).2.2.2 = false ∧ parseFieldDescriptor (r.2.1 39).2.2.1 = some (.boolean) := fun r hr => by cases hr; exact ⟨rfl, by decide +kernel⟩
theorem pw_8_40 : ∀ r : vw_C, pmCl[8]? = some r → (r.2.1 40).2.2.2 = false ∧ parseFieldDescriptor (r.2.1 40).2.2.1 = some (.boolean) := fun r hr => by cases hr; exact ⟨rfl, by decide +kernel⟩
theorem pw_8_41 : ∀ r : vw_C, pmCl[8]? = some r → (r.2.1 41).2.2.2 = true ∧ (r.2.1 41).1 = "PortableFilesModel" ∧ parseFieldDescriptor (r.2.1 41).2.2.1 = some (.array .boolean) := fun r hr => by cases hr; exact ⟨rfl, rfl, by decide +kernel⟩
