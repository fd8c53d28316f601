/-! ===== plain answers; rules that are easier to use ===== -/
/-- it answers v in the state S' -/
def Ret (v : Option Value) (S' : pmS) : pmA → pmS → Prop := fun o S => o = .inl v ∧ S = S'
def bI (p : Prop) [Decidable p] : Int32 := if p then 1 else 0
theorem bI_0 {p : Prop} [Decidable p] : bI p = 0 ↔ ¬ p := by
  unfold bI
  by_cases h : p <;> simp [h]
theorem bI_t {p : Prop} [Decidable p] (h : p) : bI p = 1 := by simp [bI, h]
theorem bI_f {p : Prop} [Decidable p] (h : ¬ p) : bI p = 0 := by simp [bI, h]
theorem bI_n {p : Prop} [Decidable p] : narrow .boolean (.int (bI p)) = .int (bI p) := by
  unfold bI
  by_cases h : p <;> simp [h] <;> rfl
theorem bI_c {p q : Prop} [Decidable p] [Decidable q] (h : p ↔ q) : bI p = bI q := by
  unfold bI
  by_cases hp : p
  · simp [hp, h.mp hp]
  · have hq : ¬ q := fun hq => hp (h.mpr hq)
    simp [hp, hq]
section PR
variable {E : pmEv} {F : pmFr} {pc : Nat} {L : pmL} {st : List Value} {S : pmS} {k n : Nat} {Q : pmA → pmS → Prop}
theorem go_ifeq_b {p : Prop} [Decidable p] {off : Int} {tgt pc' : Nat} (hd : decode F.1.2.1 pc = .ok (.ifCond .eq off, 3)) (kt : ¬ p → Go E F tgt L st S k n Q) (kf : p → Go E F pc' L st S k n Q) (ht : (pc : Int) + off = (tgt : Int) := by decide) (hp : pc + 3 = pc' := by rfl) : Go E F pc L (.int (bI p) :: st) S k n Q :=
  go_if_eq hd (fun h => kt (bI_0.mp h)) (fun h => kf (Classical.byContradiction fun q => h (bI_0.mpr q))) ht hp
theorem go_ifne_b {p : Prop} [Decidable p] {off : Int} {tgt pc' : Nat} (hd : decode F.1.2.1 pc = .ok (.ifCond .ne off, 3)) (kt : p → Go E F tgt L st S k n Q) (kf : ¬ p → Go E F pc' L st S k n Q) (ht : (pc : Int) + off = (tgt : Int) := by decide) (hp : pc + 3 = pc' := by rfl) : Go E F pc L (.int (bI p) :: st) S k n Q :=
  go_if_ne hd (fun h => kt (Classical.byContradiction fun q => h (bI_0.mpr q))) (fun h => kf (bI_0.mp h)) ht hp
theorem go_virtR {x b ci : Nat} {fs : List Value} {r : vw_C} {M : pmMeth} {vs rest st0 : List Value} {v : Option Value} {S' : pmS} {pc' : Nat} (hd : decode F.1.2.1 pc = .ok (.invokevirtual x, 3)) (hok : pmOk M) (him : Cond.instanceMethod M.1 ∈ pmW) (hse : Cond.selects M.1.cls M.1 M.1 ∈ pmW) (hl : Cond.methodLink F.1.1.cls x M.1 ∈ pmW) (hb : S.1 b = some (pmO ci fs)) (hC : Call E M (.ref b :: vs) S.1 S.2.1 0 0 (Ret v S'))
    (h : Go E F pc' L (v.toList ++ rest) (S'.1, S'.2.1, S.2.2 || S'.2.2) k n Q)
    (hr : pmCl[ci]? = some r := by rfl) (hrc : r.1 = M.1.cls := by rfl) (hs0 : st0 = vs.reverse ++ .ref b :: rest := by rfl) (hnp : (parseMethodDescriptor M.1.desc).map (fun d => d.parameters.length) = some vs.length := by decide +kernel) (hfr : M.2.2.2.2.2.2.2.1 + 1 ≤ F.1.2.2.2.2.2.2.2.1 := by exact Nat.le_of_ble_eq_true rfl) (hlo : 8 + (M.2.2.1 + 11) + M.2.2.2.2.2.2.2.2 ≤ F.1.2.2.2.2.2.2.2.2 := by exact Nat.le_of_ble_eq_true rfl) (hcl : k ≤ F.2.2.1 := by exact Nat.le_of_ble_eq_true rfl) (hsl : n ≤ F.2.2.2 := by exact Nat.le_of_ble_eq_true rfl) (hW : (rest.map fun v => v.category).sum ≤ 8 := by exact Nat.le_of_ble_eq_true rfl) (hp : pc + 3 = pc' := by rfl) : Go E F pc L st0 S k n Q :=
  go_virt hd hok him hse hl hb hC (fun v' S'' hq => by obtain ⟨h1, h2⟩ := hq; cases h1; cases h2; exact h) (fun x S'' hq => by obtain ⟨h1, -⟩ := hq; cases h1) hr hrc hs0 hnp hfr hlo hcl hsl hW hp
theorem go_statR {x : Nat} {M : pmMeth} {vs rest st0 : List Value} {v : Option Value} {S' : pmS} {pc' : Nat} (hd : decode F.1.2.1 pc = .ok (.invokestatic x, 3)) (hok : pmOk M) (hst : Cond.static M.1 ∈ pmW) (hl : Cond.methodLink F.1.1.cls x M.1 ∈ pmW) (hC : Call E M vs S.1 S.2.1 0 0 (Ret v S'))
    (h : Go E F pc' L (v.toList ++ rest) (S'.1, S'.2.1, S.2.2 || S'.2.2) k n Q)
    (hs0 : st0 = vs.reverse ++ rest := by rfl) (hnp : (parseMethodDescriptor M.1.desc).map (fun d => d.parameters.length) = some vs.length := by decide +kernel) (hfr : M.2.2.2.2.2.2.2.1 + 1 ≤ F.1.2.2.2.2.2.2.2.1 := by exact Nat.le_of_ble_eq_true rfl) (hlo : 8 + (M.2.2.1 + 11) + M.2.2.2.2.2.2.2.2 ≤ F.1.2.2.2.2.2.2.2.2 := by exact Nat.le_of_ble_eq_true rfl) (hcl : k ≤ F.2.2.1 := by exact Nat.le_of_ble_eq_true rfl) (hsl : n ≤ F.2.2.2 := by exact Nat.le_of_ble_eq_true rfl) (hW : (rest.map fun v => v.category).sum ≤ 8 := by exact Nat.le_of_ble_eq_true rfl) (hp : pc + 3 = pc' := by rfl) : Go E F pc L st0 S k n Q :=
  go_stat hd hok hst hl hC (fun v' S'' hq => by obtain ⟨h1, h2⟩ := hq; cases h1; cases h2; exact h) (fun x S'' hq => by obtain ⟨h1, -⟩ := hq; cases h1) hs0 hnp hfr hlo hcl hsl hW hp
end PR
theorem pmNe {h : pmH} {a b : Nat} {c d : pmC} (h1 : h a = some c) (h2 : h b = some d) (hc : c ≠ d) : a ≠ b := fun e => hc (by subst e; exact Option.some.inj (h1.symm.trans h2))
theorem bI_fit {p : Prop} [Decidable p] : fits .boolean (.int (bI p)) = true := by
  unfold bI
  by_cases h : p <;> simp [h] <;> rfl
theorem pw_0_0 : ∀ r : vw_C, pmCl[0]? = some r → (r.2.1 0).2.2.2 = true ∧ (r.2.1 0).1 = "PortableFiles$Bytes" ∧ parseFieldDescriptor (r.2.1 0).2.2.1 = some (.array .int) := fun r hr => by cases hr; exact ⟨rfl, rfl, by decide +kernel⟩
theorem pw_0_1 : ∀ r : vw_C, pmCl[0]? = some r → (r.2.1 1).2.2.2 = false ∧ parseFieldDescriptor (r.2.1 1).2.2.1 = some (.int) := fun r hr => by cases hr; exact ⟨rfl, by decide +kernel⟩
theorem pw_1_0 : ∀ r : vw_C, pmCl[1]? = some r → (r.2.1 0).2.2.2 = true ∧ (r.2.1 0).1 = "PortableFiles$Extras" ∧ parseFieldDescriptor (r.2.1 0).2.2.1 = some (.array .int) := fun r hr => by cases hr; exact ⟨rfl, rfl, by decide +kernel⟩
theorem pw_1_1 : ∀ r : vw_C, pmCl[1]? = some r → (r.2.1 1).2.2.2 = true ∧ (r.2.1 1).1 = "PortableFiles$Extras" ∧ parseFieldDescriptor (r.2.1 1).2.2.1 = some (.array .int) := fun r hr => by cases hr; exact ⟨rfl, rfl, by decide +kernel⟩
theorem pw_1_2 : ∀ r : vw_C, pmCl[1]? = some r → (r.2.1 2).2.2.2 = true ∧ (r.2.1 2).1 = "PortableFiles$Extras" ∧ parseFieldDescriptor (r.2.1 2).2.2.1 = some (.array .int) := fun r hr => by cases hr; exact ⟨rfl, rfl, by decide +kernel⟩
theorem pw_1_3 : ∀ r : vw_C, pmCl[1]? = some r → (r.2.1 3).2.2.2 = false ∧ parseFieldDescriptor (r.2.1 3).2.2.1 = some (.int) := fun r hr => by cases hr; exact ⟨rfl, by decide +kernel⟩
theorem pw_2_0 : ∀ r : vw_C, pmCl[2]? = some r → (r.2.1 0).2.2.2 = true ∧ (r.2.1 0).1 = "PortableFiles$Palette" ∧ parseFieldDescriptor (r.2.1 0).2.2.1 = some (.array .int) := fun r hr => by cases hr; exact ⟨rfl, rfl, by decide +kernel⟩
theorem pw_2_1 : ∀ r : vw_C, pmCl[2]? = some r → (r.2.1 1).2.2.2 = false ∧ parseFieldDescriptor (r.2.1 1).2.2.1 = some (.int) := fun r hr => by cases hr; exact ⟨rfl, by decide +kernel⟩
theorem pw_3_0 : ∀ r : vw_C, pmCl[3]? = some r → (r.2.1 0).2.2.2 = true ∧ (r.2.1 0).1 = "PortableFiles$Picture" ∧ parseFieldDescriptor (r.2.1 0).2.2.1 = some (.object "PortableFiles$Palette") := fun r hr => by cases hr; exact ⟨rfl, rfl, by decide +kernel⟩
theorem pw_3_1 : ∀ r : vw_C, pmCl[3]? = some r → (r.2.1 1).2.2.2 = true ∧ (r.2.1 1).1 = "PortableFiles$Picture" ∧ parseFieldDescriptor (r.2.1 1).2.2.1 = some (.object "PortableFiles$Tags") := fun r hr => by cases hr; exact ⟨rfl, rfl, by decide +kernel⟩
theorem pw_3_2 : ∀ r : vw_C, pmCl[3]? = some r → (r.2.1 2).2.2.2 = true ∧ (r.2.1 2).1 = "PortableFiles$Picture" ∧ parseFieldDescriptor (r.2.1 2).2.2.1 = some (.object "PortableFiles$Extras") := fun r hr => by cases hr; exact ⟨rfl, rfl, by decide +kernel⟩
theorem pw_3_3 : ∀ r : vw_C, pmCl[3]? = some r → (r.2.1 3).2.2.2 = true ∧ (r.2.1 3).1 = "PortableFiles$Picture" ∧ parseFieldDescriptor (r.2.1 3).2.2.1 = some (.array .int) := fun r hr => by cases hr; exact ⟨rfl, rfl, by decide +kernel⟩
theorem pw_3_4 : ∀ r : vw_C, pmCl[3]? = some r → (r.2.1 4).2.2.2 = false ∧ parseFieldDescriptor (r.2.1 4).2.2.1 = some (.boolean) := fun r hr => by cases hr; exact ⟨rfl, by decide +kernel⟩
theorem pw_3_5 : ∀ r : vw_C, pmCl[3]? = some r → (r.2.1 5).2.2.2 = false ∧ parseFieldDescriptor (r.2.1 5).2.2.1 = some (.int) := fun r hr => by cases hr; exact ⟨rfl, by decide +kernel⟩
theorem pw_3_6 : ∀ r : vw_C, pmCl[3]? = some r → (r.2.1 6).2.2.2 = false ∧ parseFieldDescriptor (r.2.1 6).2.2.1 = some (.int) := fun r hr => by cases hr; exact ⟨rfl, by decide +kernel⟩
theorem pw_3_7 : ∀ r : vw_C, pmCl[3]? = some r → (r.2.1 7).2.2.2 = false ∧ parseFieldDescriptor (r.2.1 7).2.2.1 = some (.int) := fun r hr => by cases hr; exact ⟨rfl, by decide +kernel⟩
theorem pw_3_8 : ∀ r : vw_C, pmCl[3]? = some r → (r.2.1 8).2.2.2 = false ∧ parseFieldDescriptor (r.2.1 8).2.2.1 = some (.int) := fun r hr => by cases hr; exact ⟨rfl, by decide +kernel⟩
theorem pw_3_9 : ∀ r : vw_C, pmCl[3]? = some r → (r.2.1 9).2.2.2 = false ∧ parseFieldDescriptor (r.2.1 9).2.2.1 = some (.int) := fun r hr => by cases hr; exact ⟨rfl, by decide +kernel⟩
theorem pw_4_0 : ∀ r : vw_C, pmCl[4]? = some r → (r.2.1 0).2.2.2 = true ∧ (r.2.1 0).1 = "PortableFiles$Reading" ∧ parseFieldDescriptor (r.2.1 0).2.2.1 = some (.object "PortableFiles$Bytes") := fun r hr => by cases hr; exact ⟨rfl, rfl, by decide +kernel⟩
theorem pw_4_1 : ∀ r : vw_C, pmCl[4]? = some r → (r.2.1 1).2.2.2 = true ∧ (r.2.1 1).1 = "PortableFiles$Reading" ∧ parseFieldDescriptor (r.2.1 1).2.2.1 = some (.object "PortableFiles$Picture") := fun r hr => by cases hr; exact ⟨rfl, rfl, by decide +kernel⟩
theorem pw_4_2 : ∀ r : vw_C, pmCl[4]? = some r → (r.2.1 2).2.2.2 = true ∧ (r.2.1 2).1 = "PortableFiles$Reading" ∧ parseFieldDescriptor (r.2.1 2).2.2.1 = some (.object "PortableFiles$Bytes") := fun r hr => by cases hr; exact ⟨rfl, rfl, by decide +kernel⟩
theorem pw_4_3 : ∀ r : vw_C, pmCl[4]? = some r → (r.2.1 3).2.2.2 = false ∧ parseFieldDescriptor (r.2.1 3).2.2.1 = some (.boolean) := fun r hr => by cases hr; exact ⟨rfl, by decide +kernel⟩
theorem pw_4_4 : ∀ r : vw_C, pmCl[4]? = some r → (r.2.1 4).2.2.2 = false ∧ parseFieldDescriptor (r.2.1 4).2.2.1 = some (.int) := fun r hr => by cases hr; exact ⟨rfl, by decide +kernel⟩
theorem pw_4_5 : ∀ r : vw_C, pmCl[4]? = some r → (r.2.1 5).2.2.2 = false ∧ parseFieldDescriptor (r.2.1 5).2.2.1 = some (.int) := fun r hr => by cases hr; exact ⟨rfl, by decide +kernel⟩
theorem pw_4_6 : ∀ r : vw_C, pmCl[4]? = some r → (r.2.1 6).2.2.2 = false ∧ parseFieldDescriptor (r.2.1 6).2.2.1 = some (.int) := fun r hr => by cases hr; exact ⟨rfl, by decide +kernel⟩
theorem pw_4_7 : ∀ r : vw_C, pmCl[4]? = some r → (r.2.1 7).2.2.2 = false ∧ parseFieldDescriptor (r.2.1 7).2.2.1 = some (.int) := fun r hr => by cases hr; exact ⟨rfl, by decide +kernel⟩
theorem pw_4_8 : ∀ r : vw_C, pmCl[4]? = some r → (r.2.1 8).2.2.2 = false ∧ parseFieldDescriptor (r.2.1 8).2.2.1 = some (.int) := fun r hr => by cases hr; exact ⟨rfl, by decide +kernel⟩
theorem pw_4_9 : ∀ r : vw_C, pmCl[4]? = some r → (r.2.1 9).2.2.2 = false ∧ parseFieldDescriptor (r.2.1 9).2.2.1 = some (.int) := fun r hr => by cases hr; exact ⟨rfl, by decide +kernel⟩
theorem pw_4_10 : ∀ r : vw_C, pmCl[4]? = some r → (r.2.1 10).2.2.2 = false ∧ parseFieldDescriptor (r.2.1 10).2.2.1 = some (.int) := fun r hr => by cases hr; exact ⟨rfl, by decide +kernel⟩
theorem pw_4_11 : ∀ r : vw_C, pmCl[4]? = some r → (r.2.1 11).2.2.2 = false ∧ parseFieldDescriptor (r.2.1 11).2.2.1 = some (.boolean) := fun r hr => by cases hr; exact ⟨rfl, by decide +kernel⟩
theorem pw_4_12 : ∀ r : vw_C, pmCl[4]? = some r → (r.2.1 12).2.2.2 = false ∧ parseFieldDescriptor (r.2.1 12).2.2.1 = some (.boolean) := fun r hr => by cases hr; exact ⟨rfl, by decide +kernel⟩
theorem pw_4_13 : ∀ r : vw_C, pmCl[4]? = some r → (r.2.1 13).2.2.2 = false ∧ parseFieldDescriptor (r.2.1 13).2.2.1 = some (.boolean) := fun r hr => by cases hr; exact ⟨rfl, by decide +kernel⟩
theorem pw_4_14 : ∀ r : vw_C, pmCl[4]? = some r → (r.2.1 14).2.2.2 = false ∧ parseFieldDescriptor (r.2.1 14).2.2.1 = some (.boolean) := fun r hr => by cases hr; exact ⟨rfl, by decide +kernel⟩
theorem pw_4_15 : ∀ r : vw_C, pmCl[4]? = some r → (r.2.1 15).2.2.2 = false ∧ parseFieldDescriptor (r.2.1 15).2.2.1 = some (.boolean) := fun r hr => by cases hr; exact ⟨rfl, by decide +kernel⟩
theorem pw_5_0 : ∀ r : vw_C, pmCl[5]? = some r → (r.2.1 0).2.2.2 = true ∧ (r.2.1 0).1 = "PortableFiles$Tags" ∧ parseFieldDescriptor (r.2.1 0).2.2.1 = some (.array .int) := fun r hr => by cases hr; exact ⟨rfl, rfl, by decide +kernel⟩
theorem pw_6_0 : ∀ r : vw_C, pmCl[6]? = some r → (r.2.1 0).2.2.2 = true ∧ (r.2.1 0).1 = "PortableFiles$Writing" ∧ parseFieldDescriptor (r.2.1 0).2.2.1 = some (.object "PortableFiles$Bytes") := fun r hr => by cases hr; exact ⟨rfl, rfl, by decide +kernel⟩
theorem pw_6_1 : ∀ r : vw_C, pmCl[6]? = some r → (r.2.1 1).2.2.2 = true ∧ (r.2.1 1).1 = "PortableFiles$Writing" ∧ parseFieldDescriptor (r.2.1 1).2.2.1 = some (.object "PortableFiles$Bytes") := fun r hr => by cases hr; exact ⟨rfl, rfl, by decide +kernel⟩
theorem pw_6_2 : ∀ r : vw_C, pmCl[6]? = some r → (r.2.1 2).2.2.2 = false ∧ parseFieldDescriptor (r.2.1 2).2.2.1 = some (.int) := fun r hr => by cases hr; exact ⟨rfl, by decide +kernel⟩
theorem pw_7_0 : ∀ r : vw_C, pmCl[7]? = some r → (r.2.1 0).2.2.2 = true ∧ (r.2.1 0).1 = "PortableFiles" ∧ parseFieldDescriptor (r.2.1 0).2.2.1 = some (.object "PortableFiles$Picture") := fun r hr => by cases hr; exact ⟨rfl, rfl, by decide +kernel⟩
theorem pw_7_1 : ∀ r : vw_C, pmCl[7]? = some r → (r.2.1 1).2.2.2 = true ∧ (r.2.1 1).1 = "PortableFiles" ∧ parseFieldDescriptor (r.2.1 1).2.2.1 = some (.object "PortableFiles$Writing") := fun r hr => by cases hr; exact ⟨rfl, rfl, by decide +kernel⟩
theorem pw_7_2 : ∀ r : vw_C, pmCl[7]? = some r → (r.2.1 2).2.2.2 = true ∧ (r.2.1 2).1 = "PortableFiles" ∧ parseFieldDescriptor (r.2.1 2).2.2.1 = some (.object "PortableFiles$Reading") := fun r hr => by cases hr; exact ⟨rfl, rfl, by decide +kernel⟩
theorem pw_8_0 : ∀ r : vw_C, pmCl[8]? = some r → (r.2.1 0).2.2.2 = false ∧ parseFieldDescriptor (r.2.1 0).2.2.1 = some (.int) := fun r hr => by cases hr; exact ⟨rfl, by decide +kernel⟩
theorem pw_8_1 : ∀ r : vw_C, pmCl[8]? = some r → (r.2.1 1).2.2.2 = false ∧ parseFieldDescriptor (r.2.1 1).2.2.1 = some (.boolean) := fun r hr => by cases hr; exact ⟨rfl, by decide +kernel⟩
theorem pw_8_2 : ∀ r : vw_C, pmCl[8]? = some r → (r.2.1 2).2.2.2 = false ∧ parseFieldDescriptor (r.2.1 2).2.2.1 = some (.int) := fun r hr => by cases hr; exact ⟨rfl, by decide +kernel⟩
theorem pw_8_3 : ∀ r : vw_C, pmCl[8]? = some r → (r.2.1 3).2.2.2 = false ∧ parseFieldDescriptor (r.2.1 3).2.2.1 = some (.int) := fun r hr => by cases hr; exact ⟨rfl, by decide +kernel⟩
theorem pw_8_4 : ∀ r : vw_C, pmCl[8]? = some r → (r.2.1 4).2.2.2 = false ∧ parseFieldDescriptor (r.2.1 4).2.2.1 = some (.int) := fun r hr => by cases hr; exact ⟨rfl, by decide +kernel⟩
theorem pw_8_5 : ∀ r : vw_C, pmCl[8]? = some r → (r.2.1 5).2.2.2 = false ∧ parseFieldDescriptor (r.2.1 5).2.2.1 = some (.int) := fun r hr => by cases hr; exact ⟨rfl, by decide +kernel⟩
theorem pw_8_6 : ∀ r : vw_C, pmCl[8]? = some r → (r.2.1 6).2.2.2 = true ∧ (r.2.1 6).1 = "PortableFilesModel" ∧ parseFieldDescriptor (r.2.1 6).2.2.1 = some (.array .int) := fun r hr => by cases hr; exact ⟨rfl, rfl, by decide +kernel⟩
theorem pw_8_7 : ∀ r : vw_C, pmCl[8]? = some r → (r.2.1 7).2.2.2 = false ∧ parseFieldDescriptor (r.2.1 7).2.2.1 = some (.int) := fun r hr => by cases hr; exact ⟨rfl, by decide +kernel⟩
theorem pw_8_8 : ∀ r : vw_C, pmCl[8]? = some r → (r.2.1 8).2.2.2 = true ∧ (r.2.1 8).1 = "PortableFilesModel" ∧ parseFieldDescriptor (r.2.1 8).2.2.1 = some (.array .int) := fun r hr => by cases hr; exact ⟨rfl, rfl, by decide +kernel⟩
theorem pw_8_9 : ∀ r : vw_C, pmCl[8]? = some r → (r.2.1 9).2.2.2 = true ∧ (r.2.1 9).1 = "PortableFilesModel" ∧ parseFieldDescriptor (r.2.1 9).2.2.1 = some (.array .int) := fun r hr => by cases hr; exact ⟨rfl, rfl, by decide +kernel⟩
theorem pw_8_10 : ∀ r : vw_C, pmCl[8]? = some r → (r.2.1 10).2.2.2 = false ∧ parseFieldDescriptor (r.2.1 10).2.2.1 = some (.int) := fun r hr => by cases hr; exact ⟨rfl, by decide +kernel⟩
theorem pw_8_11 : ∀ r : vw_C, pmCl[8]? = some r → (r.2.1 11).2.2.2 = true ∧ (r.2.1 11).1 = "PortableFilesModel" ∧ parseFieldDescriptor (r.2.1 11).2.2.1 = some (.array .int) := fun r hr => by cases hr; exact ⟨rfl, rfl, by decide +kernel⟩
theorem pw_8_12 : ∀ r : vw_C, pmCl[8]? = some r → (r.2.1 12).2.2.2 = true ∧ (r.2.1 12).1 = "PortableFilesModel" ∧ parseFieldDescriptor (r.2.1 12).2.2.1 = some (.array .int) := fun r hr => by cases hr; exact ⟨rfl, rfl, by decide +kernel⟩
theorem pw_8_13 : ∀ r : vw_C, pmCl[8]? = some r → (r.2.1 13).2.2.2 = true ∧ (r.2.1 13).1 = "PortableFilesModel" ∧ parseFieldDescriptor (r.2.1 13).2.2.1 = some (.array .int) := fun r hr => by cases hr; exact ⟨rfl, rfl, by decide +kernel⟩
theorem pw_8_14 : ∀ r : vw_C, pmCl[8]? = some r → (r.2.1 14).2.2.2 = false ∧ parseFieldDescriptor (r.2.1 14).2.2.1 = some (.boolean) := fun r hr => by cases hr; exact ⟨rfl, by decide +kernel⟩
theorem pw_8_15 : ∀ r : vw_C, pmCl[8]? = some r → (r.2.1 15).2.2.2 = false ∧ parseFieldDescriptor (r.2.1 15).2.2.1 = some (.int) := fun r hr => by cases hr; exact ⟨rfl, by decide +kernel⟩
theorem pw_8_16 : ∀ r : vw_C, pmCl[8]? = some r → (r.2.1 16).2.2.2 = false ∧ parseFieldDescriptor (r.2.1 16).2.2.1 = some (.int) := fun r hr => by cases hr; exact ⟨rfl, by decide +kernel⟩
theorem pw_8_17 : ∀ r : vw_C, pmCl[8]? = some r → (r.2.1 17).2.2.2 = false ∧ parseFieldDescriptor (r.2.1 17).2.2.1 = some (.int) := fun r hr => by cases hr; exact ⟨rfl, by decide +kernel⟩
theorem pw_8_18 : ∀ r : vw_C, pmCl[8]? = some r → (r.2.1 18).2.2.2 = false ∧ parseFieldDescriptor (r.2.1 18).2.2.1 = some (.int) := fun r hr => by cases hr; exact ⟨rfl, by decide +kernel⟩
theorem pw_8_19 : ∀ r : vw_C, pmCl[8]? = some r → (r.2.1 19).2.2.2 = true ∧ (r.2.1 19).1 = "PortableFilesModel" ∧ parseFieldDescriptor (r.2.1 19).2.2.1 = some (.array .int) := fun r hr => by cases hr; exact ⟨rfl, rfl, by decide +kernel⟩
theorem pw_8_20 : ∀ r : vw_C, pmCl[8]? = some r → (r.2.1 20).2.2.2 = false ∧ parseFieldDescriptor (r.2.1 20).2.2.1 = some (.int) := fun r hr => by cases hr; exact ⟨rfl, by decide +kernel⟩
theorem pw_8_21 : ∀ r : vw_C, pmCl[8]? = some r → (r.2.1 21).2.2.2 = true ∧ (r.2.1 21).1 = "PortableFilesModel" ∧ parseFieldDescriptor (r.2.1 21).2.2.1 = some (.array .int) := fun r hr => by cases hr; exact ⟨rfl, rfl, by decide +kernel⟩
theorem pw_8_22 : ∀ r : vw_C, pmCl[8]? = some r → (r.2.1 22).2.2.2 = true ∧ (r.2.1 22).1 = "PortableFilesModel" ∧ parseFieldDescriptor (r.2.1 22).2.2.1 = some (.array .int) := fun r hr => by cases hr; exact ⟨rfl, rfl, by decide +kernel⟩
theorem pw_8_23 : ∀ r : vw_C, pmCl[8]? = some r → (r.2.1 23).2.2.2 = false ∧ parseFieldDescriptor (r.2.1 23).2.2.1 = some (.int) := fun r hr => by cases hr; exact ⟨rfl, by decide +kernel⟩
theorem pw_8_24 : ∀ r : vw_C, pmCl[8]? = some r → (r.2.1 24).2.2.2 = true ∧ (r.2.1 24).1 = "PortableFilesModel" ∧ parseFieldDescriptor (r.2.1 24).2.2.1 = some (.array .int) := fun r hr => by cases hr; exact ⟨rfl, rfl, by decide +kernel⟩
theorem pw_8_25 : ∀ r : vw_C, pmCl[8]? = some r → (r.2.1 25).2.2.2 = true ∧ (r.2.1 25).1 = "PortableFilesModel" ∧ parseFieldDescriptor (r.2.1 25).2.2.1 = some (.array .int) := fun r hr => by cases hr; exact ⟨rfl, rfl, by decide +kernel⟩
theorem pw_8_26 : ∀ r : vw_C, pmCl[8]? = some r → (r.2.1 26).2.2.2 = true ∧ (r.2.1 26).1 = "PortableFilesModel" ∧ parseFieldDescriptor (r.2.1 26).2.2.1 = some (.array .int) := fun r hr => by cases hr; exact ⟨rfl, rfl, by decide +kernel⟩
theorem pw_8_27 : ∀ r : vw_C, pmCl[8]? = some r → (r.2.1 27).2.2.2 = false ∧ parseFieldDescriptor (r.2.1 27).2.2.1 = some (.int) := fun r hr => by cases hr; exact ⟨rfl, by decide +kernel⟩
theorem pw_8_28 : ∀ r : vw_C, pmCl[8]? = some r → (r.2.1 28).2.2.2 = false ∧ parseFieldDescriptor (r.2.1 28).2.2.1 = some (.int) := fun r hr => by cases hr; exact ⟨rfl, by decide +kernel⟩
theorem pw_8_29 : ∀ r : vw_C, pmCl[8]? = some r → (r.2.1 29).2.2.2 = true ∧ (r.2.1 29).1 = "PortableFilesModel" ∧ parseFieldDescriptor (r.2.1 29).2.2.1 = some (.array .int) := fun r hr => by cases hr; exact ⟨rfl, rfl, by decide +kernel⟩
theorem pw_8_30 : ∀ r : vw_C, pmCl[8]? = some r → (r.2.1 30).2.2.2 = false ∧ parseFieldDescriptor (r.2.1 30).2.2.1 = some (.int) := fun r hr => by cases hr; exact ⟨rfl, by decide +kernel⟩
theorem pw_8_31 : ∀ r : vw_C, pmCl[8]? = some r → (r.2.1 31).2.2.2 = true ∧ (r.2.1 31).1 = "PortableFilesModel" ∧ parseFieldDescriptor (r.2.1 31).2.2.1 = some (.array .int) := fun r hr => by cases hr; exact ⟨rfl, rfl, by decide +kernel⟩
theorem pw_8_32 : ∀ r : vw_C, pmCl[8]? = some r → (r.2.1 32).2.2.2 = false ∧ parseFieldDescriptor (r.2.1 32).2.2.1 = some (.int) := fun r hr => by cases hr; exact ⟨rfl, by decide +kernel⟩
theorem pw_8_33 : ∀ r : vw_C, pmCl[8]? = some r → (r.2.1 33).2.2.2 = false ∧ parseFieldDescriptor (r.2.1 33).2.2.1 = some (.int) := fun r hr => by cases hr; exact ⟨rfl, by decide +kernel⟩
theorem pw_8_34 : ∀ r : vw_C, pmCl[8]? = some r → (r.2.1 34).2.2.2 = true ∧ (r.2.1 34).1 = "PortableFilesModel" ∧ parseFieldDescriptor (r.2.1 34).2.2.1 = some (.array .int) := fun r hr => by cases hr; exact ⟨rfl, rfl, by decide +kernel⟩
theorem pw_8_35 : ∀ r : vw_C, pmCl[8]? = some r → (r.2.1 35).2.2.2 = false ∧ parseFieldDescriptor (r.2.1 35).2.2.1 = some (.int) := fun r hr => by cases hr; exact ⟨rfl, by decide +kernel⟩
theorem pw_8_36 : ∀ r : vw_C, pmCl[8]? = some r → (r.2.1 36).2.2.2 = false ∧ parseFieldDescriptor (r.2.1 36).2.2.1 = some (.boolean) := fun r hr => by cases hr; exact ⟨rfl, by decide +kernel⟩
theorem pw_8_37 : ∀ r : vw_C, pmCl[8]? = some r → (r.2.1 37).2.2.2 = false ∧ parseFieldDescriptor (r.2.1 37).2.2.1 = some (.boolean) := fun r hr => by cases hr; exact ⟨rfl, by decide +kernel⟩
theorem pw_8_38 : ∀ r : vw_C, pmCl[8]? = some r → (r.2.1 38).2.2.2 = false ∧ parseFieldDescriptor (r.2.1 38).2.2.1 = some (.boolean) := fun r hr => by cases hr; exact ⟨rfl, by decide +kernel⟩
theorem pw_8_39 : ∀ r : vw_C, pmCl[8]? = some r → (r.2.1 39).2.2.2 = false ∧ parseFieldDescriptor (r.2.1 39).2.2.1 = some (.boolean) := fun r hr => by cases hr; exact ⟨rfl, by decide +kernel⟩
theorem pw_8_40 : ∀ r : vw_C, pmCl[8]? = some r → (r.2.1 40).2.2.2 = false ∧ parseFieldDescriptor (r.2.1 40).2.2.1 = some (.boolean) := fun r hr => by cases hr; exact ⟨rfl, by decide +kernel⟩
theorem pw_8_41 : ∀ r : vw_C, pmCl[8]? = some r → (r.2.1 41).2.2.2 = true ∧ (r.2.1 41).1 = "PortableFilesModel" ∧ parseFieldDescriptor (r.2.1 41).2.2.1 = some (.array .boolean) := fun r hr => by cases hr; exact ⟨rfl, rfl, by decide +kernel⟩
theorem ret_bf {p : Prop} [Decidable p] {S : pmS} (h : ¬ p) : Ret (some (.int (bI p))) S (.inl (some (.int 0))) S := ⟨by rw [bI_f h], rfl⟩
theorem ret_bt {p : Prop} [Decidable p] {S : pmS} (h : p) : Ret (some (.int (bI p))) S (.inl (some (.int 1))) S := ⟨by rw [bI_t h], rfl⟩
theorem ret_v {v : Option Value} {S : pmS} : Ret v S (.inl v) S := ⟨rfl, rfl⟩
theorem ret_e {v w : Option Value} {S : pmS} (h : w = v) : Ret v S (.inl w) S := ⟨by rw [h], rfl⟩
theorem np_mLaw_head : (parseMethodDescriptor mLaw_head.1.desc).map (fun d => d.parameters.length) = some 5 := by decide +kernel
theorem np_mLaw_colour : (parseMethodDescriptor mLaw_colour.1.desc).map (fun d => d.parameters.length) = some 6 := by decide +kernel
theorem np_mLaw_put : (parseMethodDescriptor mLaw_put.1.desc).map (fun d => d.parameters.length) = some 6 := by decide +kernel
theorem np_mLaw_tag : (parseMethodDescriptor mLaw_tag.1.desc).map (fun d => d.parameters.length) = some 4 := by decide +kernel
theorem np_mLaw_extra : (parseMethodDescriptor mLaw_extra.1.desc).map (fun d => d.parameters.length) = some 3 := by decide +kernel
theorem np_mLaw_byteOf : (parseMethodDescriptor mLaw_byteOf.1.desc).map (fun d => d.parameters.length) = some 4 := by decide +kernel
theorem np_mLaw_reduce : (parseMethodDescriptor mLaw_reduce.1.desc).map (fun d => d.parameters.length) = some 2 := by decide +kernel
theorem np_mLaw_write : (parseMethodDescriptor mLaw_write.1.desc).map (fun d => d.parameters.length) = some 2 := by decide +kernel
theorem np_mLaw_byteAt : (parseMethodDescriptor mLaw_byteAt.1.desc).map (fun d => d.parameters.length) = some 3 := by decide +kernel
theorem np_mLaw_feed : (parseMethodDescriptor mLaw_feed.1.desc).map (fun d => d.parameters.length) = some 3 := by decide +kernel
theorem np_mLaw_pass : (parseMethodDescriptor mLaw_pass.1.desc).map (fun d => d.parameters.length) = some 4 := by decide +kernel
theorem np_mLaw_alter : (parseMethodDescriptor mLaw_alter.1.desc).map (fun d => d.parameters.length) = some 5 := by decide +kernel
theorem np_mLaw_at : (parseMethodDescriptor mLaw_at.1.desc).map (fun d => d.parameters.length) = some 5 := by decide +kernel
theorem np_mLaw_found : (parseMethodDescriptor mLaw_found.1.desc).map (fun d => d.parameters.length) = some 3 := by decide +kernel
theorem np_mLaw_entry : (parseMethodDescriptor mLaw_entry.1.desc).map (fun d => d.parameters.length) = some 4 := by decide +kernel
theorem np_mLaw_unknown : (parseMethodDescriptor mLaw_unknown.1.desc).map (fun d => d.parameters.length) = some 4 := by decide +kernel
theorem np_mLaw_take : (parseMethodDescriptor mLaw_take.1.desc).map (fun d => d.parameters.length) = some 1 := by decide +kernel
theorem np_mBytes_init : (parseMethodDescriptor mBytes_init.1.desc).map (fun d => d.parameters.length) = some 1 := by decide +kernel
theorem np_mBytes_clear : (parseMethodDescriptor mBytes_clear.1.desc).map (fun d => d.parameters.length) = some 0 := by decide +kernel
theorem np_mBytes_has : (parseMethodDescriptor mBytes_has.1.desc).map (fun d => d.parameters.length) = some 1 := by decide +kernel
theorem np_mBytes_value : (parseMethodDescriptor mBytes_value.1.desc).map (fun d => d.parameters.length) = some 1 := by decide +kernel
theorem np_mBytes_set : (parseMethodDescriptor mBytes_set.1.desc).map (fun d => d.parameters.length) = some 2 := by decide +kernel
theorem np_mBytes_add : (parseMethodDescriptor mBytes_add.1.desc).map (fun d => d.parameters.length) = some 1 := by decide +kernel
theorem np_mBytes_number : (parseMethodDescriptor mBytes_number.1.desc).map (fun d => d.parameters.length) = some 1 := by decide +kernel
theorem np_mBytes_setNumber : (parseMethodDescriptor mBytes_setNumber.1.desc).map (fun d => d.parameters.length) = some 2 := by decide +kernel
theorem np_mBytes_addNumber : (parseMethodDescriptor mBytes_addNumber.1.desc).map (fun d => d.parameters.length) = some 1 := by decide +kernel
theorem np_mBytes_addBeginning : (parseMethodDescriptor mBytes_addBeginning.1.desc).map (fun d => d.parameters.length) = some 0 := by decide +kernel
theorem np_mBytes_hasBeginning : (parseMethodDescriptor mBytes_hasBeginning.1.desc).map (fun d => d.parameters.length) = some 0 := by decide +kernel
theorem np_mBytes_dataLengthMayBe : (parseMethodDescriptor mBytes_dataLengthMayBe.1.desc).map (fun d => d.parameters.length) = some 1 := by decide +kernel
theorem np_mBytes_hasWholeChunk : (parseMethodDescriptor mBytes_hasWholeChunk.1.desc).map (fun d => d.parameters.length) = some 2 := by decide +kernel
theorem np_mBytes_sumIsRight : (parseMethodDescriptor mBytes_sumIsRight.1.desc).map (fun d => d.parameters.length) = some 2 := by decide +kernel
theorem np_mBytes_rightSum : (parseMethodDescriptor mBytes_rightSum.1.desc).map (fun d => d.parameters.length) = some 2 := by decide +kernel
theorem np_mBytes_mendSum : (parseMethodDescriptor mBytes_mendSum.1.desc).map (fun d => d.parameters.length) = some 1 := by decide +kernel
theorem np_mBytes_sumPlace : (parseMethodDescriptor mBytes_sumPlace.1.desc).map (fun d => d.parameters.length) = some 2 := by decide +kernel
theorem np_mExtras_init : (parseMethodDescriptor mExtras_init.1.desc).map (fun d => d.parameters.length) = some 0 := by decide +kernel
theorem np_mExtras_clear : (parseMethodDescriptor mExtras_clear.1.desc).map (fun d => d.parameters.length) = some 0 := by decide +kernel
theorem np_mExtras_isFull : (parseMethodDescriptor mExtras_isFull.1.desc).map (fun d => d.parameters.length) = some 0 := by decide +kernel
theorem np_mExtras_has : (parseMethodDescriptor mExtras_has.1.desc).map (fun d => d.parameters.length) = some 1 := by decide +kernel
theorem np_mExtras_lettersOf : (parseMethodDescriptor mExtras_lettersOf.1.desc).map (fun d => d.parameters.length) = some 1 := by decide +kernel
theorem np_mExtras_lengthOf : (parseMethodDescriptor mExtras_lengthOf.1.desc).map (fun d => d.parameters.length) = some 1 := by decide +kernel
theorem np_mExtras_value : (parseMethodDescriptor mExtras_value.1.desc).map (fun d => d.parameters.length) = some 2 := by decide +kernel
theorem np_mExtras_add : (parseMethodDescriptor mExtras_add.1.desc).map (fun d => d.parameters.length) = some 1 := by decide +kernel
theorem np_mExtras_addByte : (parseMethodDescriptor mExtras_addByte.1.desc).map (fun d => d.parameters.length) = some 2 := by decide +kernel
theorem np_mExtras_leaveOnlySafeOnes : (parseMethodDescriptor mExtras_leaveOnlySafeOnes.1.desc).map (fun d => d.parameters.length) = some 0 := by decide +kernel
theorem np_mExtras_copyFrom : (parseMethodDescriptor mExtras_copyFrom.1.desc).map (fun d => d.parameters.length) = some 1 := by decide +kernel
theorem np_mExtras_move : (parseMethodDescriptor mExtras_move.1.desc).map (fun d => d.parameters.length) = some 2 := by decide +kernel
theorem np_mPalette_init : (parseMethodDescriptor mPalette_init.1.desc).map (fun d => d.parameters.length) = some 0 := by decide +kernel
theorem np_mPalette_most : (parseMethodDescriptor mPalette_most.1.desc).map (fun d => d.parameters.length) = some 1 := by decide +kernel
theorem np_mPalette_clear : (parseMethodDescriptor mPalette_clear.1.desc).map (fun d => d.parameters.length) = some 0 := by decide +kernel
theorem np_mPalette_has : (parseMethodDescriptor mPalette_has.1.desc).map (fun d => d.parameters.length) = some 1 := by decide +kernel
theorem np_mPalette_part : (parseMethodDescriptor mPalette_part.1.desc).map (fun d => d.parameters.length) = some 2 := by decide +kernel
theorem np_mPalette_add : (parseMethodDescriptor mPalette_add.1.desc).map (fun d => d.parameters.length) = some 4 := by decide +kernel
theorem np_mPalette_setAlpha : (parseMethodDescriptor mPalette_setAlpha.1.desc).map (fun d => d.parameters.length) = some 2 := by decide +kernel
theorem np_mPalette_alphasToTell : (parseMethodDescriptor mPalette_alphasToTell.1.desc).map (fun d => d.parameters.length) = some 0 := by decide +kernel
theorem np_mPalette_copyFrom : (parseMethodDescriptor mPalette_copyFrom.1.desc).map (fun d => d.parameters.length) = some 1 := by decide +kernel
theorem np_mPicture_init : (parseMethodDescriptor mPicture_init.1.desc).map (fun d => d.parameters.length) = some 0 := by decide +kernel
theorem np_mPicture_begin : (parseMethodDescriptor mPicture_begin.1.desc).map (fun d => d.parameters.length) = some 4 := by decide +kernel
theorem np_mPicture_become : (parseMethodDescriptor mPicture_become.1.desc).map (fun d => d.parameters.length) = some 2 := by decide +kernel
theorem np_mPicture_has : (parseMethodDescriptor mPicture_has.1.desc).map (fun d => d.parameters.length) = some 3 := by decide +kernel
theorem np_mPicture_sample : (parseMethodDescriptor mPicture_sample.1.desc).map (fun d => d.parameters.length) = some 3 := by decide +kernel
theorem np_mPicture_setSample : (parseMethodDescriptor mPicture_setSample.1.desc).map (fun d => d.parameters.length) = some 4 := by decide +kernel
theorem np_mPicture_sampleMayBe : (parseMethodDescriptor mPicture_sampleMayBe.1.desc).map (fun d => d.parameters.length) = some 1 := by decide +kernel
theorem np_mPicture_hasChanged : (parseMethodDescriptor mPicture_hasChanged.1.desc).map (fun d => d.parameters.length) = some 0 := by decide +kernel
theorem np_mPicture_copyFrom : (parseMethodDescriptor mPicture_copyFrom.1.desc).map (fun d => d.parameters.length) = some 1 := by decide +kernel
theorem np_mPicture_placeOf : (parseMethodDescriptor mPicture_placeOf.1.desc).map (fun d => d.parameters.length) = some 3 := by decide +kernel
theorem np_mReading_init : (parseMethodDescriptor mReading_init.1.desc).map (fun d => d.parameters.length) = some 0 := by decide +kernel
theorem np_mReading_run : (parseMethodDescriptor mReading_run.1.desc).map (fun d => d.parameters.length) = some 0 := by decide +kernel
theorem np_mReading_begin : (parseMethodDescriptor mReading_begin.1.desc).map (fun d => d.parameters.length) = some 0 := by decide +kernel
theorem np_mReading_readChunk : (parseMethodDescriptor mReading_readChunk.1.desc).map (fun d => d.parameters.length) = some 0 := by decide +kernel
theorem np_mReading_frameFault : (parseMethodDescriptor mReading_frameFault.1.desc).map (fun d => d.parameters.length) = some 0 := by decide +kernel
theorem np_mReading_leaveOut : (parseMethodDescriptor mReading_leaveOut.1.desc).map (fun d => d.parameters.length) = some 0 := by decide +kernel
theorem np_mReading_noteRowsEnd : (parseMethodDescriptor mReading_noteRowsEnd.1.desc).map (fun d => d.parameters.length) = some 0 := by decide +kernel
theorem np_mReading_orderIsWrong : (parseMethodDescriptor mReading_orderIsWrong.1.desc).map (fun d => d.parameters.length) = some 0 := by decide +kernel
theorem np_mReading_isGreyKind : (parseMethodDescriptor mReading_isGreyKind.1.desc).map (fun d => d.parameters.length) = some 0 := by decide +kernel
theorem np_mReading_isUnknown : (parseMethodDescriptor mReading_isUnknown.1.desc).map (fun d => d.parameters.length) = some 0 := by decide +kernel
theorem np_mReading_takeIn : (parseMethodDescriptor mReading_takeIn.1.desc).map (fun d => d.parameters.length) = some 0 := by decide +kernel
theorem np_mReading_takeHead : (parseMethodDescriptor mReading_takeHead.1.desc).map (fun d => d.parameters.length) = some 1 := by decide +kernel
theorem np_mReading_takeTag : (parseMethodDescriptor mReading_takeTag.1.desc).map (fun d => d.parameters.length) = some 2 := by decide +kernel
theorem np_mReading_takePalette : (parseMethodDescriptor mReading_takePalette.1.desc).map (fun d => d.parameters.length) = some 1 := by decide +kernel
theorem np_mReading_takeAlphas : (parseMethodDescriptor mReading_takeAlphas.1.desc).map (fun d => d.parameters.length) = some 1 := by decide +kernel
theorem np_mReading_takeRows : (parseMethodDescriptor mReading_takeRows.1.desc).map (fun d => d.parameters.length) = some 1 := by decide +kernel
theorem np_mReading_takeExtra : (parseMethodDescriptor mReading_takeExtra.1.desc).map (fun d => d.parameters.length) = some 1 := by decide +kernel
theorem np_mReading_end : (parseMethodDescriptor mReading_end.1.desc).map (fun d => d.parameters.length) = some 0 := by decide +kernel
theorem np_mTags_init : (parseMethodDescriptor mTags_init.1.desc).map (fun d => d.parameters.length) = some 0 := by decide +kernel
theorem np_mTags_isTag : (parseMethodDescriptor mTags_isTag.1.desc).map (fun d => d.parameters.length) = some 1 := by decide +kernel
theorem np_mTags_mayBe : (parseMethodDescriptor mTags_mayBe.1.desc).map (fun d => d.parameters.length) = some 2 := by decide +kernel
theorem np_mTags_clear : (parseMethodDescriptor mTags_clear.1.desc).map (fun d => d.parameters.length) = some 0 := by decide +kernel
theorem np_mTags_has : (parseMethodDescriptor mTags_has.1.desc).map (fun d => d.parameters.length) = some 1 := by decide +kernel
theorem np_mTags_value : (parseMethodDescriptor mTags_value.1.desc).map (fun d => d.parameters.length) = some 1 := by decide +kernel
theorem np_mTags_set : (parseMethodDescriptor mTags_set.1.desc).map (fun d => d.parameters.length) = some 2 := by decide +kernel
theorem np_mTags_copyFrom : (parseMethodDescriptor mTags_copyFrom.1.desc).map (fun d => d.parameters.length) = some 1 := by decide +kernel
theorem np_mWriting_init : (parseMethodDescriptor mWriting_init.1.desc).map (fun d => d.parameters.length) = some 0 := by decide +kernel
theorem np_mWriting_run : (parseMethodDescriptor mWriting_run.1.desc).map (fun d => d.parameters.length) = some 1 := by decide +kernel
theorem np_mWriting_open : (parseMethodDescriptor mWriting_open.1.desc).map (fun d => d.parameters.length) = some 1 := by decide +kernel
theorem np_mWriting_close : (parseMethodDescriptor mWriting_close.1.desc).map (fun d => d.parameters.length) = some 0 := by decide +kernel
theorem np_mWriting_addHead : (parseMethodDescriptor mWriting_addHead.1.desc).map (fun d => d.parameters.length) = some 1 := by decide +kernel
theorem np_mWriting_addTags : (parseMethodDescriptor mWriting_addTags.1.desc).map (fun d => d.parameters.length) = some 1 := by decide +kernel
theorem np_mWriting_addPalette : (parseMethodDescriptor mWriting_addPalette.1.desc).map (fun d => d.parameters.length) = some 1 := by decide +kernel
theorem np_mWriting_addAlphas : (parseMethodDescriptor mWriting_addAlphas.1.desc).map (fun d => d.parameters.length) = some 1 := by decide +kernel
theorem np_mWriting_addRows : (parseMethodDescriptor mWriting_addRows.1.desc).map (fun d => d.parameters.length) = some 1 := by decide +kernel
theorem np_mWriting_addExtras : (parseMethodDescriptor mWriting_addExtras.1.desc).map (fun d => d.parameters.length) = some 1 := by decide +kernel
theorem np_mPF_init : (parseMethodDescriptor mPF_init.1.desc).map (fun d => d.parameters.length) = some 0 := by decide +kernel
theorem np_mPF_head : (parseMethodDescriptor mPF_head.1.desc).map (fun d => d.parameters.length) = some 4 := by decide +kernel
theorem np_mPF_colour : (parseMethodDescriptor mPF_colour.1.desc).map (fun d => d.parameters.length) = some 4 := by decide +kernel
theorem np_mPF_put : (parseMethodDescriptor mPF_put.1.desc).map (fun d => d.parameters.length) = some 4 := by decide +kernel
theorem np_mPF_tag : (parseMethodDescriptor mPF_tag.1.desc).map (fun d => d.parameters.length) = some 2 := by decide +kernel
theorem np_mPF_extra : (parseMethodDescriptor mPF_extra.1.desc).map (fun d => d.parameters.length) = some 1 := by decide +kernel
theorem np_mPF_byteOf : (parseMethodDescriptor mPF_byteOf.1.desc).map (fun d => d.parameters.length) = some 2 := by decide +kernel
theorem np_mPF_reduce : (parseMethodDescriptor mPF_reduce.1.desc).map (fun d => d.parameters.length) = some 0 := by decide +kernel
theorem np_mPF_write : (parseMethodDescriptor mPF_write.1.desc).map (fun d => d.parameters.length) = some 0 := by decide +kernel
theorem np_mPF_byteAt : (parseMethodDescriptor mPF_byteAt.1.desc).map (fun d => d.parameters.length) = some 1 := by decide +kernel
theorem np_mPF_feed : (parseMethodDescriptor mPF_feed.1.desc).map (fun d => d.parameters.length) = some 1 := by decide +kernel
theorem np_mPF_pass : (parseMethodDescriptor mPF_pass.1.desc).map (fun d => d.parameters.length) = some 2 := by decide +kernel
theorem np_mPF_alter : (parseMethodDescriptor mPF_alter.1.desc).map (fun d => d.parameters.length) = some 3 := by decide +kernel
theorem np_mPF_read : (parseMethodDescriptor mPF_read.1.desc).map (fun d => d.parameters.length) = some 0 := by decide +kernel
theorem np_mPF_at : (parseMethodDescriptor mPF_at.1.desc).map (fun d => d.parameters.length) = some 3 := by decide +kernel
theorem np_mPF_found : (parseMethodDescriptor mPF_found.1.desc).map (fun d => d.parameters.length) = some 1 := by decide +kernel
theorem np_mPF_entry : (parseMethodDescriptor mPF_entry.1.desc).map (fun d => d.parameters.length) = some 2 := by decide +kernel
theorem np_mPF_unknown : (parseMethodDescriptor mPF_unknown.1.desc).map (fun d => d.parameters.length) = some 2 := by decide +kernel
theorem np_mPF_take : (parseMethodDescriptor mPF_take.1.desc).map (fun d => d.parameters.length) = some 0 := by decide +kernel
theorem np_mPF_told : (parseMethodDescriptor mPF_told.1.desc).map (fun d => d.parameters.length) = some 1 := by decide +kernel
theorem np_mPF_drop : (parseMethodDescriptor mPF_drop.1.desc).map (fun d => d.parameters.length) = some 0 := by decide +kernel
theorem np_mPF_needPicture : (parseMethodDescriptor mPF_needPicture.1.desc).map (fun d => d.parameters.length) = some 0 := by decide +kernel
theorem np_mPF_needReading : (parseMethodDescriptor mPF_needReading.1.desc).map (fun d => d.parameters.length) = some 0 := by decide +kernel
theorem np_mPF_needWritten : (parseMethodDescriptor mPF_needWritten.1.desc).map (fun d => d.parameters.length) = some 1 := by decide +kernel
theorem np_mPF_needRoom : (parseMethodDescriptor mPF_needRoom.1.desc).map (fun d => d.parameters.length) = some 1 := by decide +kernel
theorem np_mPF_needByte : (parseMethodDescriptor mPF_needByte.1.desc).map (fun d => d.parameters.length) = some 1 := by decide +kernel
theorem np_mPF_isByte : (parseMethodDescriptor mPF_isByte.1.desc).map (fun d => d.parameters.length) = some 1 := by decide +kernel
theorem np_mRef_init : (parseMethodDescriptor mRef_init.1.desc).map (fun d => d.parameters.length) = some 0 := by decide +kernel
theorem np_mRef_thrown : (parseMethodDescriptor mRef_thrown.1.desc).map (fun d => d.parameters.length) = some 0 := by decide +kernel
theorem np_mRef_isGood : (parseMethodDescriptor mRef_isGood.1.desc).map (fun d => d.parameters.length) = some 4 := by decide +kernel
theorem np_mRef_channelsOf : (parseMethodDescriptor mRef_channelsOf.1.desc).map (fun d => d.parameters.length) = some 1 := by decide +kernel
theorem np_mRef_mostEntries : (parseMethodDescriptor mRef_mostEntries.1.desc).map (fun d => d.parameters.length) = some 1 := by decide +kernel
theorem np_mRef_head : (parseMethodDescriptor mRef_head.1.desc).map (fun d => d.parameters.length) = some 4 := by decide +kernel
theorem np_mRef_isByte : (parseMethodDescriptor mRef_isByte.1.desc).map (fun d => d.parameters.length) = some 1 := by decide +kernel
theorem np_mRef_change : (parseMethodDescriptor mRef_change.1.desc).map (fun d => d.parameters.length) = some 0 := by decide +kernel
theorem np_mRef_colour : (parseMethodDescriptor mRef_colour.1.desc).map (fun d => d.parameters.length) = some 4 := by decide +kernel
theorem np_mRef_put : (parseMethodDescriptor mRef_put.1.desc).map (fun d => d.parameters.length) = some 4 := by decide +kernel
theorem np_mRef_mayBe : (parseMethodDescriptor mRef_mayBe.1.desc).map (fun d => d.parameters.length) = some 2 := by decide +kernel
theorem np_mRef_tag : (parseMethodDescriptor mRef_tag.1.desc).map (fun d => d.parameters.length) = some 2 := by decide +kernel
theorem np_mRef_isGreat : (parseMethodDescriptor mRef_isGreat.1.desc).map (fun d => d.parameters.length) = some 1 := by decide +kernel
theorem np_mRef_isSmall : (parseMethodDescriptor mRef_isSmall.1.desc).map (fun d => d.parameters.length) = some 1 := by decide +kernel
theorem np_mRef_letter : (parseMethodDescriptor mRef_letter.1.desc).map (fun d => d.parameters.length) = some 2 := by decide +kernel
theorem np_mRef_areLetters : (parseMethodDescriptor mRef_areLetters.1.desc).map (fun d => d.parameters.length) = some 1 := by decide +kernel
theorem np_mRef_isOfOthers : (parseMethodDescriptor mRef_isOfOthers.1.desc).map (fun d => d.parameters.length) = some 1 := by decide +kernel
theorem np_mRef_extra : (parseMethodDescriptor mRef_extra.1.desc).map (fun d => d.parameters.length) = some 1 := by decide +kernel
theorem np_mRef_byteOf : (parseMethodDescriptor mRef_byteOf.1.desc).map (fun d => d.parameters.length) = some 2 := by decide +kernel
theorem np_mRef_isFull : (parseMethodDescriptor mRef_isFull.1.desc).map (fun d => d.parameters.length) = some 1 := by decide +kernel
theorem np_mRef_isGrey : (parseMethodDescriptor mRef_isGrey.1.desc).map (fun d => d.parameters.length) = some 0 := by decide +kernel
theorem np_mRef_greatest : (parseMethodDescriptor mRef_greatest.1.desc).map (fun d => d.parameters.length) = some 1 := by decide +kernel
theorem np_mRef_fits : (parseMethodDescriptor mRef_fits.1.desc).map (fun d => d.parameters.length) = some 1 := by decide +kernel
theorem np_mRef_lessen : (parseMethodDescriptor mRef_lessen.1.desc).map (fun d => d.parameters.length) = some 0 := by decide +kernel
theorem np_mRef_reduce : (parseMethodDescriptor mRef_reduce.1.desc).map (fun d => d.parameters.length) = some 0 := by decide +kernel
theorem np_mRef_tell : (parseMethodDescriptor mRef_tell.1.desc).map (fun d => d.parameters.length) = some 1 := by decide +kernel
theorem np_mRef_tellNumber : (parseMethodDescriptor mRef_tellNumber.1.desc).map (fun d => d.parameters.length) = some 1 := by decide +kernel
theorem np_mRef_sumOf : (parseMethodDescriptor mRef_sumOf.1.desc).map (fun d => d.parameters.length) = some 3 := by decide +kernel
theorem np_mRef_close : (parseMethodDescriptor mRef_close.1.desc).map (fun d => d.parameters.length) = some 1 := by decide +kernel
theorem np_mRef_open : (parseMethodDescriptor mRef_open.1.desc).map (fun d => d.parameters.length) = some 1 := by decide +kernel
theorem np_mRef_writeTags : (parseMethodDescriptor mRef_writeTags.1.desc).map (fun d => d.parameters.length) = some 0 := by decide +kernel
theorem np_mRef_writePalette : (parseMethodDescriptor mRef_writePalette.1.desc).map (fun d => d.parameters.length) = some 0 := by decide +kernel
theorem np_mRef_bytesInRow : (parseMethodDescriptor mRef_bytesInRow.1.desc).map (fun d => d.parameters.length) = some 3 := by decide +kernel
theorem np_mRef_rowByte : (parseMethodDescriptor mRef_rowByte.1.desc).map (fun d => d.parameters.length) = some 1 := by decide +kernel
theorem np_mRef_writeRows : (parseMethodDescriptor mRef_writeRows.1.desc).map (fun d => d.parameters.length) = some 0 := by decide +kernel
theorem np_mRef_mark : (parseMethodDescriptor mRef_mark.1.desc).map (fun d => d.parameters.length) = some 1 := by decide +kernel
theorem np_mRef_write : (parseMethodDescriptor mRef_write.1.desc).map (fun d => d.parameters.length) = some 0 := by decide +kernel
theorem np_mRef_byteAt : (parseMethodDescriptor mRef_byteAt.1.desc).map (fun d => d.parameters.length) = some 1 := by decide +kernel
theorem np_mRef_feed : (parseMethodDescriptor mRef_feed.1.desc).map (fun d => d.parameters.length) = some 1 := by decide +kernel
theorem np_mRef_pass : (parseMethodDescriptor mRef_pass.1.desc).map (fun d => d.parameters.length) = some 2 := by decide +kernel
theorem np_mRef_four : (parseMethodDescriptor mRef_four.1.desc).map (fun d => d.parameters.length) = some 2 := by decide +kernel
theorem np_mRef_endOf : (parseMethodDescriptor mRef_endOf.1.desc).map (fun d => d.parameters.length) = some 1 := by decide +kernel
theorem np_mRef_alter : (parseMethodDescriptor mRef_alter.1.desc).map (fun d => d.parameters.length) = some 3 := by decide +kernel
theorem np_mRef_breakBy : (parseMethodDescriptor mRef_breakBy.1.desc).map (fun d => d.parameters.length) = some 3 := by decide +kernel
theorem np_mRef_tagOf : (parseMethodDescriptor mRef_tagOf.1.desc).map (fun d => d.parameters.length) = some 1 := by decide +kernel
theorem np_mRef_isOutOfOrder : (parseMethodDescriptor mRef_isOutOfOrder.1.desc).map (fun d => d.parameters.length) = some 1 := by decide +kernel
theorem np_mRef_takeHead : (parseMethodDescriptor mRef_takeHead.1.desc).map (fun d => d.parameters.length) = some 2 := by decide +kernel
theorem np_mRef_takeTag : (parseMethodDescriptor mRef_takeTag.1.desc).map (fun d => d.parameters.length) = some 3 := by decide +kernel
theorem np_mRef_takePalette : (parseMethodDescriptor mRef_takePalette.1.desc).map (fun d => d.parameters.length) = some 2 := by decide +kernel
theorem np_mRef_takeAlphas : (parseMethodDescriptor mRef_takeAlphas.1.desc).map (fun d => d.parameters.length) = some 2 := by decide +kernel
theorem np_mRef_takeRows : (parseMethodDescriptor mRef_takeRows.1.desc).map (fun d => d.parameters.length) = some 2 := by decide +kernel
theorem np_mRef_takeExtra : (parseMethodDescriptor mRef_takeExtra.1.desc).map (fun d => d.parameters.length) = some 3 := by decide +kernel
theorem np_mRef_takes : (parseMethodDescriptor mRef_takes.1.desc).map (fun d => d.parameters.length) = some 3 := by decide +kernel
theorem np_mRef_rowBits : (parseMethodDescriptor mRef_rowBits.1.desc).map (fun d => d.parameters.length) = some 2 := by decide +kernel
theorem np_mRef_unpack : (parseMethodDescriptor mRef_unpack.1.desc).map (fun d => d.parameters.length) = some 0 := by decide +kernel
theorem np_mRef_begin : (parseMethodDescriptor mRef_begin.1.desc).map (fun d => d.parameters.length) = some 0 := by decide +kernel
theorem np_mRef_chunk : (parseMethodDescriptor mRef_chunk.1.desc).map (fun d => d.parameters.length) = some 1 := by decide +kernel
theorem np_mRef_read : (parseMethodDescriptor mRef_read.1.desc).map (fun d => d.parameters.length) = some 0 := by decide +kernel
theorem np_mRef_at : (parseMethodDescriptor mRef_at.1.desc).map (fun d => d.parameters.length) = some 3 := by decide +kernel
theorem np_mRef_found : (parseMethodDescriptor mRef_found.1.desc).map (fun d => d.parameters.length) = some 1 := by decide +kernel
theorem np_mRef_entry : (parseMethodDescriptor mRef_entry.1.desc).map (fun d => d.parameters.length) = some 2 := by decide +kernel
theorem np_mRef_unknown : (parseMethodDescriptor mRef_unknown.1.desc).map (fun d => d.parameters.length) = some 2 := by decide +kernel
theorem np_mRef_take : (parseMethodDescriptor mRef_take.1.desc).map (fun d => d.parameters.length) = some 0 := by decide +kernel
theorem np_mRef_told : (parseMethodDescriptor mRef_told.1.desc).map (fun d => d.parameters.length) = some 1 := by decide +kernel
theorem np_mRef_drop : (parseMethodDescriptor mRef_drop.1.desc).map (fun d => d.parameters.length) = some 0 := by decide +kernel
theorem np_mShape_mayBe : (parseMethodDescriptor mShape_mayBe.1.desc).map (fun d => d.parameters.length) = some 4 := by decide +kernel
theorem np_mShape_channelsOf : (parseMethodDescriptor mShape_channelsOf.1.desc).map (fun d => d.parameters.length) = some 1 := by decide +kernel
theorem np_mShape_greatest : (parseMethodDescriptor mShape_greatest.1.desc).map (fun d => d.parameters.length) = some 1 := by decide +kernel
theorem np_mShape_sideMayBe : (parseMethodDescriptor mShape_sideMayBe.1.desc).map (fun d => d.parameters.length) = some 1 := by decide +kernel
theorem np_mShape_bitsMayBe : (parseMethodDescriptor mShape_bitsMayBe.1.desc).map (fun d => d.parameters.length) = some 2 := by decide +kernel
theorem np_mLetters_mayBe : (parseMethodDescriptor mLetters_mayBe.1.desc).map (fun d => d.parameters.length) = some 1 := by decide +kernel
theorem np_mLetters_areOfExtra : (parseMethodDescriptor mLetters_areOfExtra.1.desc).map (fun d => d.parameters.length) = some 1 := by decide +kernel
theorem np_mLetters_firstIsGreat : (parseMethodDescriptor mLetters_firstIsGreat.1.desc).map (fun d => d.parameters.length) = some 1 := by decide +kernel
theorem np_mLetters_fourthIsGreat : (parseMethodDescriptor mLetters_fourthIsGreat.1.desc).map (fun d => d.parameters.length) = some 1 := by decide +kernel
theorem np_mLetters_letter : (parseMethodDescriptor mLetters_letter.1.desc).map (fun d => d.parameters.length) = some 2 := by decide +kernel
theorem np_mLetters_isLetter : (parseMethodDescriptor mLetters_isLetter.1.desc).map (fun d => d.parameters.length) = some 1 := by decide +kernel
theorem np_mLetters_isGreat : (parseMethodDescriptor mLetters_isGreat.1.desc).map (fun d => d.parameters.length) = some 1 := by decide +kernel
theorem np_mRows_lengthOf : (parseMethodDescriptor mRows_lengthOf.1.desc).map (fun d => d.parameters.length) = some 1 := by decide +kernel
theorem np_mRows_pack : (parseMethodDescriptor mRows_pack.1.desc).map (fun d => d.parameters.length) = some 2 := by decide +kernel
theorem np_mRows_unpack : (parseMethodDescriptor mRows_unpack.1.desc).map (fun d => d.parameters.length) = some 2 := by decide +kernel
theorem np_mRows_packRow : (parseMethodDescriptor mRows_packRow.1.desc).map (fun d => d.parameters.length) = some 3 := by decide +kernel
theorem np_mRows_unpackRow : (parseMethodDescriptor mRows_unpackRow.1.desc).map (fun d => d.parameters.length) = some 4 := by decide +kernel
theorem np_mRows_isFilledWithNought : (parseMethodDescriptor mRows_isFilledWithNought.1.desc).map (fun d => d.parameters.length) = some 2 := by decide +kernel
theorem np_mRows_rowLength : (parseMethodDescriptor mRows_rowLength.1.desc).map (fun d => d.parameters.length) = some 1 := by decide +kernel
theorem np_mRows_rowBits : (parseMethodDescriptor mRows_rowBits.1.desc).map (fun d => d.parameters.length) = some 1 := by decide +kernel
theorem np_mLess_lessen : (parseMethodDescriptor mLess_lessen.1.desc).map (fun d => d.parameters.length) = some 1 := by decide +kernel
theorem np_mLess_lessenAlpha : (parseMethodDescriptor mLess_lessenAlpha.1.desc).map (fun d => d.parameters.length) = some 1 := by decide +kernel
theorem np_mLess_lessenColours : (parseMethodDescriptor mLess_lessenColours.1.desc).map (fun d => d.parameters.length) = some 1 := by decide +kernel
theorem np_mLess_lessenGreyBits : (parseMethodDescriptor mLess_lessenGreyBits.1.desc).map (fun d => d.parameters.length) = some 1 := by decide +kernel
theorem np_mLess_stepOf : (parseMethodDescriptor mLess_stepOf.1.desc).map (fun d => d.parameters.length) = some 2 := by decide +kernel
theorem np_mLess_lessenPaletteBits : (parseMethodDescriptor mLess_lessenPaletteBits.1.desc).map (fun d => d.parameters.length) = some 1 := by decide +kernel
theorem np_mLess_isOpaque : (parseMethodDescriptor mLess_isOpaque.1.desc).map (fun d => d.parameters.length) = some 1 := by decide +kernel
theorem np_mLess_isGreyEverywhere : (parseMethodDescriptor mLess_isGreyEverywhere.1.desc).map (fun d => d.parameters.length) = some 1 := by decide +kernel
theorem np_mLess_allAreTimes : (parseMethodDescriptor mLess_allAreTimes.1.desc).map (fun d => d.parameters.length) = some 2 := by decide +kernel
theorem np_mLess_divideAll : (parseMethodDescriptor mLess_divideAll.1.desc).map (fun d => d.parameters.length) = some 2 := by decide +kernel
theorem np_mArrays_fill : (parseMethodDescriptor mArrays_fill.1.desc).map (fun d => d.parameters.length) = some 2 := by decide +kernel
theorem np_mMath_min : (parseMethodDescriptor mMath_min.1.desc).map (fun d => d.parameters.length) = some 2 := by decide +kernel
