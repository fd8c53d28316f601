/-! ===== the class's own methods (by wip/whole/gen_tPF.py) ===== -/
/-- it answers, or it throws x and leaves all as it was -/
def RetN (P : Prop) (x : Nat) (h : pmH) (z : Option Nat) : pmA → pmS → Prop := fun o S => (P ∧ o = .inl none ∧ S = (h, z, false)) ∨ (¬ P ∧ o = .inr x ∧ S = (h, none, false))
section PRN
variable {E : pmEv} {F : pmFr} {pc : Nat} {L : pmL} {st : List Value} {S : pmS} {k n : Nat} {Q : pmA → pmS → Prop}
theorem go_virtN {x b ci y : Nat} {fs : List Value} {r : vw_C} {M : pmMeth} {vs rest st0 : List Value} {P : Prop} {hh : pmH} {zz : Option Nat} {dd : Bool} {pc' : Nat} (hd : decode F.1.2.1 pc = .ok (.invokevirtual x, 3)) (hok : pmOk M) (him : Cond.instanceMethod M.1 ∈ pmW) (hse : Cond.selects M.1.cls M.1 M.1 ∈ pmW) (hl : Cond.methodLink F.1.1.cls x M.1 ∈ pmW) (hb : hh b = some (pmO ci fs)) (hC : Call E M (.ref b :: vs) hh zz 1 6 (RetN P y hh zz)) (ht : ¬ P → Q (.inr y) (hh, none, dd))
    (h : P → Go E F pc' L rest (hh, zz, dd) (k + 1) (n + 6) Q) (hnh : F.1.2.2.2.2.1 = [] := by rfl)
    (hr : pmCl[ci]? = some r := by rfl) (hrc : r.1 = M.1.cls := by rfl) (hs0 : st0 = vs.reverse ++ .ref b :: rest := by rfl) (hnp : (parseMethodDescriptor M.1.desc).map (fun d => d.parameters.length) = some vs.length := by decide +kernel) (hfr : M.2.2.2.2.2.2.2.1 + 1 ≤ F.1.2.2.2.2.2.2.2.1 := by exact Nat.le_of_ble_eq_true rfl) (hlo : 8 + (M.2.2.1 + 11) + M.2.2.2.2.2.2.2.2 ≤ F.1.2.2.2.2.2.2.2.2 := by exact Nat.le_of_ble_eq_true rfl) (hcl : k + 1 ≤ F.2.2.1 := by exact Nat.le_of_ble_eq_true rfl) (hsl : n + 6 ≤ F.2.2.2 := by exact Nat.le_of_ble_eq_true rfl) (hW : (rest.map fun v => v.category).sum ≤ 8 := by exact Nat.le_of_ble_eq_true rfl) (hp : pc + 3 = pc' := by rfl) : Go E F pc L st0 (hh, zz, dd) k n Q :=
  go_virt hd hok him hse hl hb hC (fun v' S'' hq => by rcases hq with ⟨h1, h2, h3⟩ | ⟨h1, h2, h3⟩ <;> cases h2; cases h3; rw [Bool.or_false]; exact h h1) (fun x' S'' hq => by rcases hq with ⟨h1, h2, h3⟩ | ⟨h1, h2, h3⟩ <;> cases h2; cases h3; rw [Bool.or_false]; exact got_out hnh (ht h1) hcl hsl) hr hrc hs0 hnp hfr hlo hcl hsl hW hp
theorem go_statN {x y : Nat} {M : pmMeth} {vs rest st0 : List Value} {P : Prop} {hh : pmH} {zz : Option Nat} {dd : Bool} {pc' : Nat} (hd : decode F.1.2.1 pc = .ok (.invokestatic x, 3)) (hok : pmOk M) (hst : Cond.static M.1 ∈ pmW) (hl : Cond.methodLink F.1.1.cls x M.1 ∈ pmW) (hC : Call E M vs hh zz 1 6 (RetN P y hh zz)) (ht : ¬ P → Q (.inr y) (hh, none, dd))
    (h : P → Go E F pc' L rest (hh, zz, dd) (k + 1) (n + 6) Q) (hnh : F.1.2.2.2.2.1 = [] := by rfl)
    (hs0 : st0 = vs.reverse ++ rest := by rfl) (hnp : (parseMethodDescriptor M.1.desc).map (fun d => d.parameters.length) = some vs.length := by decide +kernel) (hfr : M.2.2.2.2.2.2.2.1 + 1 ≤ F.1.2.2.2.2.2.2.2.1 := by exact Nat.le_of_ble_eq_true rfl) (hlo : 8 + (M.2.2.1 + 11) + M.2.2.2.2.2.2.2.2 ≤ F.1.2.2.2.2.2.2.2.2 := by exact Nat.le_of_ble_eq_true rfl) (hcl : k + 1 ≤ F.2.2.1 := by exact Nat.le_of_ble_eq_true rfl) (hsl : n + 6 ≤ F.2.2.2 := by exact Nat.le_of_ble_eq_true rfl) (hW : (rest.map fun v => v.category).sum ≤ 8 := by exact Nat.le_of_ble_eq_true rfl) (hp : pc + 3 = pc' := by rfl) : Go E F pc L st0 (hh, zz, dd) k n Q :=
  go_stat hd hok hst hl hC (fun v' S'' hq => by rcases hq with ⟨h1, h2, h3⟩ | ⟨h1, h2, h3⟩ <;> cases h2; cases h3; rw [Bool.or_false]; exact h h1) (fun x' S'' hq => by rcases hq with ⟨h1, h2, h3⟩ | ⟨h1, h2, h3⟩ <;> cases h2; cases h3; rw [Bool.or_false]; exact got_out hnh (ht h1) hcl hsl) hs0 hnp hfr hlo hcl hsl hW hp
end PRN
/-- whether there is a picture, the picture; what was written; what was fed; the reading -/
abbrev aPF : Type := (Bool × aPic) × aRow × aRow × aRs
def PFA (h : pmH) (x : Nat) (α : aPF) : Prop := h x = some (pmO 7 [.ref (x + 1), .ref (x + 11), .ref (x + 16)]) ∧ PiA h (x + 1) α.1.1 α.1.2 ∧ (∃ (R : aRow) (o : Nat), WrA h (x + 11) (α.2.1, R, o)) ∧ ReA h (x + 16) α.2.2.1 α.2.2.2 ∧ α.2.1.2 ≤ 1115 ∧ α.2.2.1.2 ≤ 2000
theorem PFA.pic {h h' : pmH} {x : Nat} {α : aPF} {t : Bool} {π : aPic} (hA : PFA h x α) (hq : PiA h' (x + 1) t π) (hs : Sm h h' (x + 1) 10) : PFA h' x ((t, π), α.2) := ⟨(hs _ (by omega)).trans hA.1, hq, hA.2.2.1.imp fun _ q => q.imp fun _ q => q.sm hs (by omega), hA.2.2.2.1.sm hs (by omega), hA.2.2.2.2⟩
theorem PFA.wri {h h' : pmH} {x : Nat} {α : aPF} {w R : aRow} {o : Nat} (hA : PFA h x α) (hq : WrA h' (x + 11) (w, R, o)) (hw : w.2 ≤ 1115) (hs : Sm h h' (x + 11) 5) : PFA h' x (α.1, w, α.2.2) := ⟨(hs _ (by omega)).trans hA.1, hA.2.1.sm hs (by omega), ⟨R, o, hq⟩, hA.2.2.2.1.sm hs (by omega), hw, hA.2.2.2.2.2⟩
theorem PFA.rea {h h' : pmH} {x : Nat} {α : aPF} {S : aRs} (hA : PFA h x α) (hq : ReA h' (x + 16) α.2.2.1 S) (hs : Sm h h' (x + 16) 15) : PFA h' x (α.1, α.2.1, α.2.2.1, S) := ⟨(hs _ (by omega)).trans hA.1, hA.2.1.sm hs (by omega), hA.2.2.1.imp fun _ q => q.imp fun _ q => q.sm hs (by omega), hq, hA.2.2.2.2⟩
theorem PFA.fed {h h' : pmH} {x : Nat} {α : aPF} {p : aRow} (hA : PFA h x α) (hq : BA h' (x + 16 + 1) 2000 p) (hs : Sm h h' (x + 16 + 1) 2) (hp : p.2 ≤ 2000) : PFA h' x (α.1, α.2.1, p, α.2.2.2) := ⟨(hs _ (by omega)).trans hA.1, hA.2.1.sm hs (by omega), hA.2.2.1.imp fun _ q => q.imp fun _ q => q.sm hs (by omega), hA.2.2.2.1.fed hq hs, hA.2.2.2.2.1, hp⟩
theorem PFA.sm {h h' : pmH} {x a n : Nat} {α : aPF} (hA : PFA h x α) (hs : Sm h h' a n) (hd : x + 31 ≤ a ∨ a + n ≤ x) : PFA h' x α := ⟨(hs _ (by omega)).trans hA.1, hA.2.1.sm hs (by omega), hA.2.2.1.imp fun _ q => q.imp fun _ q => q.sm hs (by omega), hA.2.2.2.1.sm hs (by omega), hA.2.2.2.2⟩
def RetF (x : Nat) (h : pmH) (f : pmA × aPF) : pmA → pmS → Prop := fun o S => o = f.1 ∧ PFA S.1 x f.2 ∧ Sm h S.1 x 31 ∧ S.2.1 = none
theorem retF {x : Nat} {h h' : pmH} {f : pmA × aPF} {o : pmA} {β : aPF} {d : Bool} (e : f = (o, β)) (hA : PFA h' x β) (hs : Sm h h' x 31) : RetF x h f o (h', none, d) := by
  subst e
  exact ⟨rfl, hA, hs, rfl⟩
theorem has_ex {c : Nat} {i : Int32} (hc : c < 2 ^ 31) (h : 0 ≤ i ∧ i < nI c) : ∃ k, k < c ∧ i = nI k := by
  obtain ⟨j, hj, rfl⟩ := nI_of (Int32.not_lt.mpr h.1)
  exact ⟨j, (nI_ltI hj hc).mp h.2, rfl⟩
theorem pHas_ex {d : Nat × Nat × Nat × Nat} {x y u : Int32} (h : pHas d x y u) (ho : okN d := by assumption) : ∃ a b c, x = nI a ∧ y = nI b ∧ u = nI c ∧ a < d.1 ∧ b < d.2.1 ∧ c < chN d.2.2.2 := by
  have h1 := ho.w
  have h2 := chN_le d.2.2.2
  obtain ⟨a, ha, rfl⟩ := has_ex (by omega) h.1
  obtain ⟨b, hb, rfl⟩ := has_ex (by omega) h.2.1
  obtain ⟨c, hc, rfl⟩ := has_ex (by omega) h.2.2
  exact ⟨a, b, c, rfl, rfl, rfl, ha, hb, hc⟩
theorem ge_m1 {i : Int32} (h : ¬ i < -1) (h' : ¬ i = -1) : 0 ≤ i := by
  rw [Int32.lt_iff_toInt_lt] at h
  rw [Int32.le_iff_toInt_le]
  have e : ¬ i.toInt = (-1 : Int32).toInt := fun q => h' (Int32.toInt_inj.mp q)
  have e1 : (-1 : Int32).toInt = -1 := by decide
  have e2 : (0 : Int32).toInt = 0 := by decide
  omega
theorem room_n {p m : Nat} (hm : m < 2 ^ 31) (hp : p ≤ 2000) (h : nI m ≤ 2000 - nI p) : p + m ≤ 2000 := by
  rw [show (2000 : Int32) = nI 2000 from rfl, pk_sub hp] at h
  have := (nI_leI hm (by omega)).mp h
  omega
theorem room_y {p m : Nat} (hm : m < 2 ^ 31) (hp : p ≤ 2000) (h : p + m ≤ 2000) : nI m ≤ 2000 - nI p := by
  rw [show (2000 : Int32) = nI 2000 from rfl, pk_sub hp]
  exact nI_le (by omega) (by omega)
abbrev byt (x : Int32) : Prop := 0 ≤ x ∧ x ≤ 255
def poN (x y u : Int32) : Nat := (y.toNatClampNeg * 12 + x.toNatClampNeg) * 4 + u.toNatClampNeg
def hdF (α : aPF) (a1 a2 a3 a4 : Int32) : pmA × aPF := if okHead a1 a2 a3 a4 then (.inl none, ((true, piNew (a1.toNatClampNeg, a2.toNatClampNeg, a3.toNatClampNeg, a4.toNatClampNeg) α.1.2), α.2)) else (.inr 1, α)
def coF (α : aPF) (a1 a2 a3 a4 : Int32) : pmA × aPF := if ¬ (α.1.1 = true ∧ nI α.1.2.1.2.2.2 = 3) then (.inr 0, α) else if ¬ (byt a1 ∧ byt a2 ∧ byt a3 ∧ byt a4) then (.inr 1, α) else if min 64 (2 ^ α.1.2.1.2.2.1) ≤ α.1.2.2.2.1.2 then (.inr 3, α) else (.inl (some (.int (nI (α.1.2.2.2.1.2 + 1)))), ((α.1.1, piSafe (α.1.2.1, α.1.2.2.1, plA α.1.2.2.2.1 a1 a2 a3 a4, α.1.2.2.2.2)), α.2))
def puF (α : aPF) (a1 a2 a3 a4 : Int32) : pmA × aPF := if ¬ α.1.1 = true then (.inr 0, α) else if ¬ pHas α.1.2.1 a1 a2 a3 then (.inr 2, α) else if ¬ smOk α.1.2 a4 then (.inr 1, α) else if a4 = α.1.2.2.1 (poN a1 a2 a3) then (.inl (some (.int (α.1.2.2.1 (poN a1 a2 a3)))), α) else (.inl (some (.int (α.1.2.2.1 (poN a1 a2 a3)))), ((α.1.1, piSafe (α.1.2.1, upd α.1.2.2.1 (poN a1 a2 a3) a4, α.1.2.2.2)), α.2))
def tgF (α : aPF) (a1 a2 : Int32) : pmA × aPF := if ¬ α.1.1 = true then (.inr 0, α) else if ¬ (0 ≤ a1 ∧ a1 < 3) then (.inr 1, α) else if ¬ a2 = -1 ∧ ¬ tgOk a1 a2 then (.inr 1, α) else (.inl (some (.int (α.1.2.2.2.2.1 a1.toNatClampNeg))), ((α.1.1, tgS α.1.2 a1.toNatClampNeg a2), α.2))
def exF (α : aPF) (a1 : Int32) : pmA × aPF := if ¬ α.1.1 = true then (.inr 0, α) else if ¬ exOk a1 then (.inr 1, α) else if 6 ≤ α.1.2.2.2.2.2.2.2.2 then (.inr 3, α) else (.inl (some (.int (nI (α.1.2.2.2.2.2.2.2.2 + 1)))), ((α.1.1, (α.1.2.1, α.1.2.2.1, α.1.2.2.2.1, α.1.2.2.2.2.1, exAdd α.1.2.2.2.2.2 a1)), α.2))
def boF (α : aPF) (a1 a2 : Int32) : pmA × aPF := if ¬ α.1.1 = true then (.inr 0, α) else if ¬ (0 ≤ a1 ∧ a1 < nI α.1.2.2.2.2.2.2.2.2) then (.inr 2, α) else if ¬ byt a2 then (.inr 1, α) else if 40 ≤ α.1.2.2.2.2.2.2.1 a1.toNatClampNeg then (.inr 3, α) else (.inl (some (.int (nI (α.1.2.2.2.2.2.2.1 a1.toNatClampNeg + 1)))), ((α.1.1, (α.1.2.1, α.1.2.2.1, α.1.2.2.2.1, α.1.2.2.2.2.1, exAddB α.1.2.2.2.2.2 a1.toNatClampNeg a2)), α.2))
def reF (α : aPF) : pmA × aPF := if ¬ α.1.1 = true then (.inr 0, α) else (.inl (some (.int (10 * nI (lsAll α.1.2).1.2.2.2 + nI (lsAll α.1.2).1.2.2.1))), ((α.1.1, lsAll α.1.2), α.2))
def wrF (α : aPF) : pmA × aPF := if ¬ α.1.1 = true then (.inr 0, α) else if nI α.1.2.1.2.2.2 = 3 ∧ α.1.2.2.2.1.2 = 0 then (.inr 0, α) else (.inl (some (.int (nI (wrAll α.1.2 α.2.1).2))), (α.1, wrAll α.1.2 α.2.1, α.2.2))
def baF (α : aPF) (a1 : Int32) : pmA × aPF := if ¬ (0 ≤ a1 ∧ a1 < nI α.2.1.2) then (.inr 2, α) else (.inl (some (.int (α.2.1.1 a1.toNatClampNeg))), α)
def feF (α : aPF) (a1 : Int32) : pmA × aPF := if ¬ byt a1 then (.inr 1, α) else if ¬ (1 : Int32) ≤ 2000 - nI α.2.2.1.2 then (.inr 3, α) else (.inl (some (.int (nI (α.2.2.1.2 + 1)))), (α.1, α.2.1, wA α.2.2.1 a1, α.2.2.2))
def paF (α : aPF) (a1 a2 : Int32) : pmA × aPF := if ¬ (0 ≤ a1 ∧ a1 < nI α.2.1.2) then (.inr 2, α) else if a2 < 0 then (.inr 1, α) else if 2000 < α.2.2.1.2 + min a2.toNatClampNeg (α.2.1.2 - a1.toNatClampNeg) then (.inr 3, α) else (.inl (some (.int (nI (min a2.toNatClampNeg (α.2.1.2 - a1.toNatClampNeg))))), (α.1, α.2.1, wAs α.2.1.1 a1.toNatClampNeg (min a2.toNatClampNeg (α.2.1.2 - a1.toNatClampNeg)) α.2.2.1, α.2.2.2))
def alF (α : aPF) (a1 a2 a3 : Int32) : pmA × aPF := if ¬ (0 ≤ a1 ∧ a1 < nI α.2.2.1.2) then (.inr 2, α) else if ¬ byt a2 then (.inr 1, α) else if a3 = 0 then (.inl (some (.int (α.2.2.1.1 a1.toNatClampNeg))), (α.1, α.2.1, wS α.2.2.1 a1.toNatClampNeg a2, α.2.2.2)) else (.inl (some (.int (α.2.2.1.1 a1.toNatClampNeg))), (α.1, α.2.1, mendBy (wS α.2.2.1 a1.toNatClampNeg a2) (mendAt (wS α.2.2.1 a1.toNatClampNeg a2) a1.toNatClampNeg 4001 8), α.2.2.2))
def rdV (F : Int32 × Nat × aRs) : Int32 := if F.1 = 0 then F.2.2.2.2 3 else -1 - nI F.2.1
def atF (α : aPF) (a1 a2 a3 : Int32) : pmA × aPF := if α.2.2.2.2.2 0 = 0 then (.inr 0, α) else if ¬ pHas α.2.2.2.1.2.1 a1 a2 a3 then (.inr 2, α) else (.inl (some (.int (α.2.2.2.1.2.2.1 (poN a1 a2 a3)))), α)
def foV (S : aRs) (a1 : Int32) : Int32 := if a1 = 0 then nI S.1.2.1.1 else if a1 = 1 then nI S.1.2.1.2.1 else if a1 = 2 then nI S.1.2.1.2.2.1 else if a1 = 3 then nI S.1.2.1.2.2.2 else if a1 = 4 then nI S.1.2.2.2.1.2 else if a1 = 5 then S.1.2.2.2.2.1 0 else if a1 = 6 then S.1.2.2.2.2.1 1 else if a1 = 7 then S.1.2.2.2.2.1 2 else if a1 = 8 then nI S.1.2.2.2.2.2.2.2.2 else if a1 = 9 then S.2.2 4 else -1
def foF (α : aPF) (a1 : Int32) : pmA × aPF := if α.2.2.2.2.2 0 = 0 then (.inr 0, α) else (.inl (some (.int (foV α.2.2.2 a1))), α)
def eyF (α : aPF) (a1 a2 : Int32) : pmA × aPF := if α.2.2.2.2.2 0 = 0 then (.inr 0, α) else if ¬ (0 ≤ a1 ∧ a1 < nI α.2.2.2.1.2.2.2.1.2) then (.inr 2, α) else if ¬ (0 ≤ a2 ∧ a2 < 4) then (.inr 1, α) else (.inl (some (.int (α.2.2.2.1.2.2.2.1.1 (4 * a1.toNatClampNeg + a2.toNatClampNeg)))), α)
def unF (α : aPF) (a1 a2 : Int32) : pmA × aPF := if α.2.2.2.2.2 0 = 0 then (.inr 0, α) else if ¬ (0 ≤ a1 ∧ a1 < nI α.2.2.2.1.2.2.2.2.2.2.2.2) then (.inr 2, α) else if a2 < -1 ∨ ¬ a2 < nI (α.2.2.2.1.2.2.2.2.2.2.1 a1.toNatClampNeg) then (.inr 2, α) else if a2 = -1 then (.inl (some (.int (α.2.2.2.1.2.2.2.2.2.1 a1.toNatClampNeg))), α) else (.inl (some (.int (α.2.2.2.1.2.2.2.2.2.2.2.1 (40 * a1.toNatClampNeg + a2.toNatClampNeg)))), α)
def taF (α : aPF) : pmA × aPF := if α.2.2.2.2.2 0 = 0 then (.inr 0, α) else (.inl none, (α.2.2.2.1, α.2))
def toV (α : aPF) (a1 : Int32) : Int32 := if a1 = 0 then α.2.2.2.2.2 1 else if a1 = 1 then (if α.1.1 = true then nI α.1.2.1.2.2.2 else -1) else if a1 = 2 then (if α.1.1 = true then nI α.1.2.1.2.2.1 else -1) else if a1 = 3 then nI α.1.2.2.2.2.2.2.2.2 else if a1 = 4 then nI α.2.1.2 else if a1 = 5 then nI α.2.2.1.2 else if a1 = 6 then nI α.1.2.2.2.1.2 else -1
def toF (α : aPF) (a1 : Int32) : pmA × aPF := (.inl (some (.int (toV α a1))), α)
def drF (α : aPF) : pmA × aPF := (.inl none, (α.1, α.2.1, (α.2.2.1.1, 0), α.2.2.2))
theorem mendBy_2 {p : aRow} {q : Option (Nat × Nat)} : (mendBy p q).2 = p.2 := by
  cases q <;> rfl
set_option maxHeartbeats 4000000 in
theorem c_PF_needPicture {E : pmEv} {h : pmH} {z : Option Nat} {x : Nat} {α : aPF} (hA : PFA h x α) : Call E mPF_needPicture [.ref x] h z 1 6 (RetN (α.1.1 = true) 0 h z) := by
  obtain ⟨Rw, ow, hW⟩ := hA.2.2.1
  have hw15 := hA.2.2.2.2.1
  have hf20 := hA.2.2.2.2.2
  have ho := hA.2.1.2.2.2.2.2
  have hb := ho.b
  have hkk := ho.k
  have hwh := ho.w
  have hc64 := hA.2.1.2.1.2.2
  have hx6 := hA.2.1.2.2.2.1.2.2
  refine call_of (L := [some (.ref x)]) ok_mPF_needPicture (Nat.le_of_ble_eq_true rfl) ?_
  refine go_aload_n dPF_needPicture_0 rfl ?_
  refine go_getf dPF_needPicture_1 qf_PF_10 hA.1 rfl ?_
  refine go_getf dPF_needPicture_4 qf_PF_47 hA.2.1.1 rfl ?_
  refine go_ifne_b (tgt := 21) dPF_needPicture_7 (fun c1 => ?_) (fun c1 => ?_)
  · refine go_vret dPF_needPicture_21 rfl ?_ (Nat.le_of_ble_eq_true rfl) (Nat.le_of_ble_eq_true rfl)
    exact Or.inl ⟨c1, rfl, rfl⟩
  · refine go_throwW (x := 0) dPF_needPicture_10 dPF_needPicture_13 dPF_needPicture_14 dPF_needPicture_17 dPF_needPicture_20 rfl qx_PF_55 qt_PF_274 ?_ rfl
    exact Or.inr ⟨c1, rfl, rfl⟩
set_option maxHeartbeats 4000000 in
theorem c_PF_needReading {E : pmEv} {h : pmH} {z : Option Nat} {x : Nat} {α : aPF} (hA : PFA h x α) : Call E mPF_needReading [.ref x] h z 1 6 (RetN (¬ α.2.2.2.2.2 0 = 0) 0 h z) := by
  obtain ⟨Rw, ow, hW⟩ := hA.2.2.1
  have hw15 := hA.2.2.2.2.1
  have hf20 := hA.2.2.2.2.2
  have ho := hA.2.1.2.2.2.2.2
  have hb := ho.b
  have hkk := ho.k
  have hwh := ho.w
  have hc64 := hA.2.1.2.1.2.2
  have hx6 := hA.2.1.2.2.2.1.2.2
  refine call_of (L := [some (.ref x)]) ok_mPF_needReading (Nat.le_of_ble_eq_true rfl) ?_
  refine go_aload_n dPF_needReading_0 rfl ?_
  refine go_getf dPF_needReading_1 qf_PF_26 hA.1 rfl ?_
  refine go_getf dPF_needReading_4 qf_PF_224 hA.2.2.2.1.1 rfl ?_
  refine go_if_ne (tgt := 21) dPF_needReading_7 (fun c1 => ?_) (fun c1 => ?_)
  · refine go_vret dPF_needReading_21 rfl ?_ (Nat.le_of_ble_eq_true rfl) (Nat.le_of_ble_eq_true rfl)
    exact Or.inl ⟨c1, rfl, rfl⟩
  · refine go_throwW (x := 0) dPF_needReading_10 dPF_needReading_13 dPF_needReading_14 dPF_needReading_17 dPF_needReading_20 rfl qx_PF_55 qt_PF_276 ?_ rfl
    exact Or.inr ⟨fun q => q c1, rfl, rfl⟩
set_option maxHeartbeats 4000000 in
theorem c_PF_needWritten {E : pmEv} {h : pmH} {z : Option Nat} {x : Nat} {α : aPF} (hA : PFA h x α) {a1 : Int32} : Call E mPF_needWritten [.ref x, .int a1] h z 1 6 (RetN (0 ≤ a1 ∧ a1 < nI α.2.1.2) 2 h z) := by
  obtain ⟨Rw, ow, hW⟩ := hA.2.2.1
  have hw15 := hA.2.2.2.2.1
  have hf20 := hA.2.2.2.2.2
  have ho := hA.2.1.2.2.2.2.2
  have hb := ho.b
  have hkk := ho.k
  have hwh := ho.w
  have hc64 := hA.2.1.2.1.2.2
  have hx6 := hA.2.1.2.2.2.1.2.2
  refine call_of (L := [some (.ref x), some (.int a1)]) ok_mPF_needWritten (Nat.le_of_ble_eq_true rfl) ?_
  refine go_aload_n dPF_needWritten_0 rfl ?_
  refine go_getf dPF_needWritten_1 qf_PF_19 hA.1 rfl ?_
  refine go_getf dPF_needWritten_4 qf_PF_189 hW.1 rfl ?_
  refine go_iload_n dPF_needWritten_7 rfl ?_
  refine go_virtP dPF_needWritten_8 ok_mBytes_has im_mBytes_has se_mBytes_has qm_PF_215 hW.2.1.1 (a_Bytes_has hW.2.1 hw15) ?_ (hnp := np_mBytes_has)
  refine go_ifne_b (tgt := 25) dPF_needWritten_11 (fun c1 => ?_) (fun c1 => ?_)
  · refine go_vret dPF_needWritten_25 rfl ?_ (Nat.le_of_ble_eq_true rfl) (Nat.le_of_ble_eq_true rfl)
    exact Or.inl ⟨c1, rfl, rfl⟩
  · refine go_throwW (x := 2) dPF_needWritten_14 dPF_needWritten_17 dPF_needWritten_18 dPF_needWritten_21 dPF_needWritten_24 rfl qx_PF_100 qt_PF_278 ?_ rfl
    exact Or.inr ⟨c1, rfl, rfl⟩
set_option maxHeartbeats 4000000 in
theorem c_PF_needRoom {E : pmEv} {h : pmH} {z : Option Nat} {x : Nat} {α : aPF} (hA : PFA h x α) {a1 : Int32} : Call E mPF_needRoom [.ref x, .int a1] h z 1 6 (RetN (a1 ≤ 2000 - nI α.2.2.1.2) 3 h z) := by
  obtain ⟨Rw, ow, hW⟩ := hA.2.2.1
  have hw15 := hA.2.2.2.2.1
  have hf20 := hA.2.2.2.2.2
  have ho := hA.2.1.2.2.2.2.2
  have hb := ho.b
  have hkk := ho.k
  have hwh := ho.w
  have hc64 := hA.2.1.2.1.2.2
  have hx6 := hA.2.1.2.2.2.1.2.2
  refine call_of (L := [some (.ref x), some (.int a1)]) ok_mPF_needRoom (Nat.le_of_ble_eq_true rfl) ?_
  refine go_iload_n dPF_needRoom_0 rfl ?_
  refine go_sipush (v := 2000) dPF_needRoom_1 (by decide) ?_
  refine go_aload_n dPF_needRoom_4 rfl ?_
  refine go_getf dPF_needRoom_5 qf_PF_26 hA.1 rfl ?_
  refine go_getf dPF_needRoom_8 qf_PF_203 hA.2.2.2.1.1 rfl ?_
  refine go_getf dPF_needRoom_11 qf_PF_193 hA.2.2.2.1.2.1.1 rfl ?_
  rw [Nat.min_eq_right hf20]
  refine go_isub dPF_needRoom_14 ?_
  refine go_icmp_le (tgt := 29) dPF_needRoom_15 (fun c1 => ?_) (fun c1 => ?_)
  · refine go_vret dPF_needRoom_29 rfl ?_ (Nat.le_of_ble_eq_true rfl) (Nat.le_of_ble_eq_true rfl)
    exact Or.inl ⟨c1, rfl, rfl⟩
  · refine go_throwW (x := 3) dPF_needRoom_18 dPF_needRoom_21 dPF_needRoom_22 dPF_needRoom_25 dPF_needRoom_28 rfl qx_PF_82 qt_PF_280 ?_ rfl
    exact Or.inr ⟨c1, rfl, rfl⟩
set_option maxHeartbeats 4000000 in
theorem c_PF_isByte {E : pmEv} {h : pmH} {z : Option Nat} {a1 : Int32} : Call E mPF_isByte [.int a1] h z 0 0 (Ret (some (.int (bI (0 ≤ a1 ∧ a1 ≤ 255)))) (h, z, false)) := by
  refine call_of (L := [some (.int a1)]) ok_mPF_isByte (Nat.le_of_ble_eq_true rfl) ?_
  refine go_iload_n dPF_isByte_0 rfl ?_
  refine go_if_lt (tgt := 15) dPF_isByte_1 (fun c1 => ?_) (fun c1 => ?_)
  · refine go_iconst (v := 0) dPF_isByte_15 (by decide) ?_
    refine go_iret dPF_isByte_16 rfl rfl ?_ (Nat.le_of_ble_eq_true rfl) (Nat.le_of_ble_eq_true rfl)
    exact ret_bf (fun q => absurd q.1 (Int32.not_le.mpr c1))
  · refine go_iload_n dPF_isByte_4 rfl ?_
    refine go_sipush (v := 255) dPF_isByte_5 (by decide) ?_
    refine go_icmp_gt (tgt := 15) dPF_isByte_8 (fun c2 => ?_) (fun c2 => ?_)
    · refine go_iconst (v := 0) dPF_isByte_15 (by decide) ?_
      refine go_iret dPF_isByte_16 rfl rfl ?_ (Nat.le_of_ble_eq_true rfl) (Nat.le_of_ble_eq_true rfl)
      exact ret_bf (fun q => absurd q.2 (Int32.not_le.mpr c2))
    · refine go_iconst (v := 1) dPF_isByte_11 (by decide) ?_
      refine go_goto (tgt := 16) dPF_isByte_12 ?_
      refine go_iret dPF_isByte_16 rfl rfl ?_ (Nat.le_of_ble_eq_true rfl) (Nat.le_of_ble_eq_true rfl)
      exact ret_bt ⟨Int32.not_lt.mp c1, Int32.not_lt.mp c2⟩
set_option maxHeartbeats 4000000 in
theorem c_PF_needByte {E : pmEv} {h : pmH} {z : Option Nat} {a1 : Int32} : Call E mPF_needByte [.int a1] h z 1 6 (RetN (0 ≤ a1 ∧ a1 ≤ 255) 1 h z) := by
  refine call_of (L := [some (.int a1)]) ok_mPF_needByte (Nat.le_of_ble_eq_true rfl) ?_
  refine go_iload_n dPF_needByte_0 rfl ?_
  refine go_statP dPF_needByte_1 ok_mPF_isByte st_mPF_isByte qm_PF_60 c_PF_isByte ?_ (hnp := np_mPF_isByte)
  refine go_ifne_b (tgt := 18) dPF_needByte_4 (fun c1 => ?_) (fun c1 => ?_)
  · refine go_vret dPF_needByte_18 rfl ?_ (Nat.le_of_ble_eq_true rfl) (Nat.le_of_ble_eq_true rfl)
    exact Or.inl ⟨c1, rfl, rfl⟩
  · refine go_throwW (x := 1) dPF_needByte_7 dPF_needByte_10 dPF_needByte_11 dPF_needByte_14 dPF_needByte_17 rfl qx_PF_36 qt_PF_282 ?_ rfl
    exact Or.inr ⟨c1, rfl, rfl⟩
set_option maxHeartbeats 4000000 in
theorem o_head {E : pmEv} {h : pmH} {x : Nat} {α : aPF} (hA : PFA h x α) {a1 a2 a3 a4 : Int32} (hS : SA E h x) : Call E mPF_head [.ref x, .int a1, .int a2, .int a3, .int a4] h none 4 24 (RetF x h (hdF α a1 a2 a3 a4)) := by
  obtain ⟨Rw, ow, hW⟩ := hA.2.2.1
  have hw15 := hA.2.2.2.2.1
  have hf20 := hA.2.2.2.2.2
  have ho := hA.2.1.2.2.2.2.2
  have hb := ho.b
  have hkk := ho.k
  have hwh := ho.w
  have hc64 := hA.2.1.2.1.2.2
  have hx6 := hA.2.1.2.2.2.1.2.2
  refine call_of (L := [some (.ref x), some (.int a1), some (.int a2), some (.int a3), some (.int a4)]) ok_mPF_head (Nat.le_of_ble_eq_true rfl) ?_
  refine go_iload_n dPF_head_0 rfl ?_
  refine go_iload_n dPF_head_1 rfl ?_
  refine go_iload_n dPF_head_2 rfl ?_
  refine go_iload dPF_head_3 rfl ?_
  refine go_statP dPF_head_5 ok_mShape_mayBe st_mShape_mayBe qm_PF_30 c_Shape_mayBe ?_ (hnp := np_mShape_mayBe)
  refine go_ifne_b (tgt := 21) dPF_head_8 (fun c1 => ?_) (fun c1 => ?_)
  · obtain ⟨w5, h5, b5, k5, ho5, rfl, rfl, rfl, rfl⟩ := okHead_n c1
    have hw5 : w5 ≤ 12 ∧ h5 ≤ 12 := ho5.w
    have hb5 : 1 ≤ b5 ∧ b5 ≤ 8 := ho5.b
    have hk5 : k5 < 7 := ho5.k
    refine go_aload_n dPF_head_21 rfl ?_
    refine go_getf dPF_head_22 qf_PF_10 hA.1 rfl ?_
    refine go_iload_n dPF_head_25 rfl ?_
    refine go_iload_n dPF_head_26 rfl ?_
    refine go_iload_n dPF_head_27 rfl ?_
    refine go_iload dPF_head_28 rfl ?_
    refine go_virtX dPF_head_30 ok_mPicture_begin im_mPicture_begin se_mPicture_begin qm_PF_43 hA.2.1.1 (a_Picture_begin (w := w5) (hh := h5) (b := b5) (k := k5) ho5 hA.2.1) (fun hx2 d2 q2 => ?_) (hnp := np_mPicture_begin)
    refine go_vret dPF_head_33 rfl ?_ (Nat.le_of_ble_eq_true rfl) (Nat.le_of_ble_eq_true rfl)
    exact retF (by rw [hdF, if_pos c1, nI_clamp (n := w5) (by omega), nI_clamp (n := h5) (by omega), nI_clamp (n := b5) (by omega), nI_clamp (n := k5) (by omega)]) (hA.pic q2.1 q2.2) (q2.2.sub (by omega) (by omega))
  · refine go_throw (x := 1) dPF_head_11 dPF_head_14 dPF_head_15 dPF_head_17 dPF_head_20 rfl qx_PF_36 qt_PF_38 ?_ rfl
    exact retF (by rw [hdF, if_neg c1]) hA (Sm.refl _ _ _)
set_option maxHeartbeats 4000000 in
theorem o_colour {E : pmEv} {h : pmH} {x : Nat} {α : aPF} (hA : PFA h x α) {a1 a2 a3 a4 : Int32} (hS : SA E h x) : Call E mPF_colour [.ref x, .int a1, .int a2, .int a3, .int a4] h none 4 24 (RetF x h (coF α a1 a2 a3 a4)) := by
  obtain ⟨Rw, ow, hW⟩ := hA.2.2.1
  have hw15 := hA.2.2.2.2.1
  have hf20 := hA.2.2.2.2.2
  have ho := hA.2.1.2.2.2.2.2
  have hb := ho.b
  have hkk := ho.k
  have hwh := ho.w
  have hc64 := hA.2.1.2.1.2.2
  have hx6 := hA.2.1.2.2.2.1.2.2
  refine call_of (L := [some (.ref x), some (.int a1), some (.int a2), some (.int a3), some (.int a4)]) ok_mPF_colour (Nat.le_of_ble_eq_true rfl) ?_
  refine go_aload_n dPF_colour_0 rfl ?_
  refine go_getf dPF_colour_1 qf_PF_10 hA.1 rfl ?_
  refine go_getf dPF_colour_4 qf_PF_47 hA.2.1.1 rfl ?_
  refine go_ifeq_b (tgt := 21) dPF_colour_7 (fun c1 => ?_) (fun c1 => ?_)
  · refine go_throw (x := 0) dPF_colour_21 dPF_colour_24 dPF_colour_25 dPF_colour_27 dPF_colour_30 rfl qx_PF_55 qt_PF_57 ?_ rfl
    exact retF (by rw [coF, if_pos (fun q => c1 q.1)]) hA (Sm.refl _ _ _)
  · refine go_aload_n dPF_colour_10 rfl ?_
    refine go_getf dPF_colour_11 qf_PF_10 hA.1 rfl ?_
    refine go_getf dPF_colour_14 qf_PF_51 hA.2.1.1 rfl ?_
    refine go_iconst (v := 3) dPF_colour_17 (by decide) ?_
    refine go_icmp_eq (tgt := 31) dPF_colour_18 (fun c2 => ?_) (fun c2 => ?_)
    · refine go_iload_n dPF_colour_31 rfl ?_
      refine go_statP dPF_colour_32 ok_mPF_isByte st_mPF_isByte qm_PF_60 c_PF_isByte ?_ (hnp := np_mPF_isByte)
      refine go_ifeq_b (tgt := 60) dPF_colour_35 (fun c3 => ?_) (fun c3 => ?_)
      · refine go_throw (x := 1) dPF_colour_60 dPF_colour_63 dPF_colour_64 dPF_colour_66 dPF_colour_69 rfl qx_PF_36 qt_PF_64 ?_ rfl
        exact retF (by rw [coF, if_neg (fun q => q ⟨c1, c2⟩), if_pos (fun q => c3 q.1)]) hA (Sm.refl _ _ _)
      · refine go_iload_n dPF_colour_38 rfl ?_
        refine go_statP dPF_colour_39 ok_mPF_isByte st_mPF_isByte qm_PF_60 c_PF_isByte ?_ (hnp := np_mPF_isByte)
        refine go_ifeq_b (tgt := 60) dPF_colour_42 (fun c4 => ?_) (fun c4 => ?_)
        · refine go_throw (x := 1) dPF_colour_60 dPF_colour_63 dPF_colour_64 dPF_colour_66 dPF_colour_69 rfl qx_PF_36 qt_PF_64 ?_ rfl
          exact retF (by rw [coF, if_neg (fun q => q ⟨c1, c2⟩), if_pos (fun q => c4 q.2.1)]) hA (Sm.refl _ _ _)
        · refine go_iload_n dPF_colour_45 rfl ?_
          refine go_statP dPF_colour_46 ok_mPF_isByte st_mPF_isByte qm_PF_60 c_PF_isByte ?_ (hnp := np_mPF_isByte)
          refine go_ifeq_b (tgt := 60) dPF_colour_49 (fun c5 => ?_) (fun c5 => ?_)
          · refine go_throw (x := 1) dPF_colour_60 dPF_colour_63 dPF_colour_64 dPF_colour_66 dPF_colour_69 rfl qx_PF_36 qt_PF_64 ?_ rfl
            exact retF (by rw [coF, if_neg (fun q => q ⟨c1, c2⟩), if_pos (fun q => c5 q.2.2.1)]) hA (Sm.refl _ _ _)
          · refine go_iload dPF_colour_52 rfl ?_
            refine go_statP dPF_colour_54 ok_mPF_isByte st_mPF_isByte qm_PF_60 c_PF_isByte ?_ (hnp := np_mPF_isByte)
            refine go_ifne_b (tgt := 70) dPF_colour_57 (fun c6 => ?_) (fun c6 => ?_)
            · refine go_aload_n dPF_colour_70 rfl ?_
              refine go_getf dPF_colour_71 qf_PF_10 hA.1 rfl ?_
              refine go_getf dPF_colour_74 qf_PF_66 hA.2.1.1 rfl ?_
              refine go_getf dPF_colour_77 qf_PF_70 hA.2.1.2.1.1 rfl ?_
              refine go_aload_n dPF_colour_80 rfl ?_
              refine go_getf dPF_colour_81 qf_PF_10 hA.1 rfl ?_
              refine go_getf dPF_colour_84 qf_PF_75 hA.2.1.1 rfl ?_
              refine go_statP dPF_colour_87 ok_mPalette_most st_mPalette_most qm_PF_78 c_Palette_most ?_ (hnp := np_mPalette_most)
              rw [mst_n hb.2]
              refine go_icmp_lt (tgt := 103) dPF_colour_90 (fun c7 => ?_) (fun c7 => ?_)
              · have hlt : α.1.2.2.2.1.2 < min 64 (2 ^ α.1.2.1.2.2.1) := Nat.not_le.mp fun q => absurd c7 (Int32.not_lt.mpr (nI_le q (by omega)))
                refine go_aload_n dPF_colour_103 rfl ?_
                refine go_getf dPF_colour_104 qf_PF_10 hA.1 rfl ?_
                refine go_getf dPF_colour_107 qf_PF_66 hA.2.1.1 rfl ?_
                refine go_iload_n dPF_colour_110 rfl ?_
                refine go_iload_n dPF_colour_111 rfl ?_
                refine go_iload_n dPF_colour_112 rfl ?_
                refine go_iload dPF_colour_113 rfl ?_
                refine go_virtX dPF_colour_115 ok_mPalette_add im_mPalette_add se_mPalette_add qm_PF_87 hA.2.1.2.1.1 (a_Palette_add (by omega) hA.2.1.2.1) (fun hx8 d8 q8 => ?_) (hnp := np_mPalette_add)
                have hP8 := hA.2.1.pal q8.1 q8.2
                have hA8 := hA.pic hP8 (q8.2.sub (by omega) (by omega))
                refine go_aload_n dPF_colour_118 rfl ?_
                refine go_getf dPF_colour_119 qf_PF_10 hA8.1 rfl ?_
                refine go_virtX dPF_colour_122 ok_mPicture_hasChanged im_mPicture_hasChanged se_mPicture_hasChanged qm_PF_90 hA8.2.1.1 (a_Picture_hasChanged hP8) (fun hx9 d9 q9 => ?_) (hnp := np_mPicture_hasChanged)
                have s9 := (q8.2.sub (a := x + 1) (n := 10) (by omega) (by omega)).trans q9.2
                have hA9 := hA.pic q9.1 s9
                refine go_aload_n dPF_colour_125 rfl ?_
                refine go_getf dPF_colour_126 qf_PF_10 hA9.1 rfl ?_
                refine go_getf dPF_colour_129 qf_PF_66 hA9.2.1.1 rfl ?_
                refine go_getf dPF_colour_132 qf_PF_70 hA9.2.1.2.1.1 rfl ?_
                refine go_iret dPF_colour_135 rfl rfl ?_ (Nat.le_of_ble_eq_true rfl) (Nat.le_of_ble_eq_true rfl)
                exact retF (by rw [coF, if_neg (fun q => q ⟨c1, c2⟩), if_neg (fun q => q ⟨c3, c4, c5, c6⟩), if_neg (Nat.not_le.mpr hlt)] ; rfl) (hA.pic q9.1 s9) (s9.sub (by omega) (by omega))
              · refine go_throw (x := 3) dPF_colour_93 dPF_colour_96 dPF_colour_97 dPF_colour_99 dPF_colour_102 rfl qx_PF_82 qt_PF_84 ?_ rfl
                exact retF (by rw [coF, if_neg (fun q => q ⟨c1, c2⟩), if_neg (fun q => q ⟨c3, c4, c5, c6⟩), if_pos (Nat.not_lt.mp fun q => c7 (nI_lt q (by omega)))]) hA (Sm.refl _ _ _)
            · refine go_throw (x := 1) dPF_colour_60 dPF_colour_63 dPF_colour_64 dPF_colour_66 dPF_colour_69 rfl qx_PF_36 qt_PF_64 ?_ rfl
              exact retF (by rw [coF, if_neg (fun q => q ⟨c1, c2⟩), if_pos (fun q => c6 q.2.2.2)]) hA (Sm.refl _ _ _)
    · refine go_throw (x := 0) dPF_colour_21 dPF_colour_24 dPF_colour_25 dPF_colour_27 dPF_colour_30 rfl qx_PF_55 qt_PF_57 ?_ rfl
      exact retF (by rw [coF, if_pos (fun q => c2 q.2)]) hA (Sm.refl _ _ _)
set_option maxHeartbeats 4000000 in
theorem o_put {E : pmEv} {h : pmH} {x : Nat} {α : aPF} (hA : PFA h x α) {a1 a2 a3 a4 : Int32} (hS : SA E h x) : Call E mPF_put [.ref x, .int a1, .int a2, .int a3, .int a4] h none 4 24 (RetF x h (puF α a1 a2 a3 a4)) := by
  obtain ⟨Rw, ow, hW⟩ := hA.2.2.1
  have hw15 := hA.2.2.2.2.1
  have hf20 := hA.2.2.2.2.2
  have ho := hA.2.1.2.2.2.2.2
  have hb := ho.b
  have hkk := ho.k
  have hwh := ho.w
  have hc64 := hA.2.1.2.1.2.2
  have hx6 := hA.2.1.2.2.2.1.2.2
  refine call_of (L := [some (.ref x), some (.int a1), some (.int a2), some (.int a3), some (.int a4), none]) ok_mPF_put (Nat.le_of_ble_eq_true rfl) ?_
  refine go_aload_n dPF_put_0 rfl ?_
  refine go_virtN dPF_put_1 ok_mPF_needPicture im_mPF_needPicture se_mPF_needPicture qm_PF_93 hA.1 (c_PF_needPicture hA) (fun c1 => by
      exact retF (by rw [puF, if_pos c1]) hA (Sm.refl _ _ _)) (fun c1 => ?_) (hnp := np_mPF_needPicture)
  refine go_aload_n dPF_put_4 rfl ?_
  refine go_getf dPF_put_5 qf_PF_10 hA.1 rfl ?_
  refine go_iload_n dPF_put_8 rfl ?_
  refine go_iload_n dPF_put_9 rfl ?_
  refine go_iload_n dPF_put_10 rfl ?_
  refine go_virtP dPF_put_11 ok_mPicture_has im_mPicture_has se_mPicture_has qm_PF_96 hA.2.1.1 (a_Picture_has hA.2.1) ?_ (hnp := np_mPicture_has)
  refine go_ifne_b (tgt := 27) dPF_put_14 (fun c2 => ?_) (fun c2 => ?_)
  · refine go_aload_n dPF_put_27 rfl ?_
    refine go_getf dPF_put_28 qf_PF_10 hA.1 rfl ?_
    refine go_iload dPF_put_31 rfl ?_
    refine go_virtP dPF_put_33 ok_mPicture_sampleMayBe im_mPicture_sampleMayBe se_mPicture_sampleMayBe qm_PF_105 hA.2.1.1 (a_Picture_sampleMayBe hA.2.1) ?_ (hnp := np_mPicture_sampleMayBe)
    refine go_ifne_b (tgt := 49) dPF_put_36 (fun c3 => ?_) (fun c3 => ?_)
    · obtain ⟨x5, y5, u5, rfl, rfl, rfl, hx5, hy5, hu5⟩ := pHas_ex c2
      have hch := chN_le α.1.2.1.2.2.2
      refine go_aload_n dPF_put_49 rfl ?_
      refine go_getf dPF_put_50 qf_PF_10 hA.1 rfl ?_
      refine go_iload_n dPF_put_53 rfl ?_
      refine go_iload_n dPF_put_54 rfl ?_
      refine go_iload_n dPF_put_55 rfl ?_
      refine go_virtP dPF_put_56 ok_mPicture_sample im_mPicture_sample se_mPicture_sample qm_PF_110 hA.2.1.1 (a_Picture_sample (x := x5) (y := y5) (u := u5) hx5 hy5 hu5 hA.2.1) ?_ (hnp := np_mPicture_sample)
      refine go_istore dPF_put_59 ?_
      refine go_iload dPF_put_61 rfl ?_
      refine go_iload dPF_put_63 rfl ?_
      refine go_icmp_eq (tgt := 87) dPF_put_65 (fun c4 => ?_) (fun c4 => ?_)
      · refine go_iload dPF_put_87 rfl ?_
        refine go_iret dPF_put_89 rfl rfl ?_ (Nat.le_of_ble_eq_true rfl) (Nat.le_of_ble_eq_true rfl)
        exact retF (by rw [puF, if_neg (fun q => q c1), if_neg (fun q => q c2), if_neg (fun q => q c3), poN, nI_clamp (n := x5) (by omega), nI_clamp (n := y5) (by omega), nI_clamp (n := u5) (by omega), if_pos c4]) hA (Sm.refl _ _ _)
      · refine go_aload_n dPF_put_68 rfl ?_
        refine go_getf dPF_put_69 qf_PF_10 hA.1 rfl ?_
        refine go_iload_n dPF_put_72 rfl ?_
        refine go_iload_n dPF_put_73 rfl ?_
        refine go_iload_n dPF_put_74 rfl ?_
        refine go_iload dPF_put_75 rfl ?_
        refine go_virtX dPF_put_77 ok_mPicture_setSample im_mPicture_setSample se_mPicture_setSample qm_PF_114 hA.2.1.1 (a_Picture_setSample (x := x5) (y := y5) (u := u5) hx5 hy5 hu5 hA.2.1) (fun hx5 d5 q5 => ?_) (hnp := np_mPicture_setSample)
        refine go_aload_n dPF_put_80 rfl ?_
        refine go_getf dPF_put_81 qf_PF_10 (hA.pic q5.1 q5.2).1 rfl ?_
        refine go_virtX dPF_put_84 ok_mPicture_hasChanged im_mPicture_hasChanged se_mPicture_hasChanged qm_PF_90 (hA.pic q5.1 q5.2).2.1.1 (a_Picture_hasChanged q5.1) (fun hx6 d6 q6 => ?_) (hnp := np_mPicture_hasChanged)
        refine go_iload dPF_put_87 rfl ?_
        refine go_iret dPF_put_89 rfl rfl ?_ (Nat.le_of_ble_eq_true rfl) (Nat.le_of_ble_eq_true rfl)
        have s9 := q5.2.trans q6.2
        exact retF (by rw [puF, if_neg (fun q => q c1), if_neg (fun q => q c2), if_neg (fun q => q c3), poN, nI_clamp (n := x5) (by omega), nI_clamp (n := y5) (by omega), nI_clamp (n := u5) (by omega), if_neg c4]) (hA.pic q6.1 s9) (s9.sub (by omega) (by omega))
    · refine go_throw (x := 1) dPF_put_39 dPF_put_42 dPF_put_43 dPF_put_45 dPF_put_48 rfl qx_PF_36 qt_PF_108 ?_ rfl
      exact retF (by rw [puF, if_neg (fun q => q c1), if_neg (fun q => q c2), if_pos c3]) hA (Sm.refl _ _ _)
  · refine go_throw (x := 2) dPF_put_17 dPF_put_20 dPF_put_21 dPF_put_23 dPF_put_26 rfl qx_PF_100 qt_PF_102 ?_ rfl
    exact retF (by rw [puF, if_neg (fun q => q c1), if_pos c2]) hA (Sm.refl _ _ _)
set_option maxHeartbeats 4000000 in
theorem o_tag {E : pmEv} {h : pmH} {x : Nat} {α : aPF} (hA : PFA h x α) {a1 a2 : Int32} (hS : SA E h x) : Call E mPF_tag [.ref x, .int a1, .int a2] h none 4 24 (RetF x h (tgF α a1 a2)) := by
  obtain ⟨Rw, ow, hW⟩ := hA.2.2.1
  have hw15 := hA.2.2.2.2.1
  have hf20 := hA.2.2.2.2.2
  have ho := hA.2.1.2.2.2.2.2
  have hb := ho.b
  have hkk := ho.k
  have hwh := ho.w
  have hc64 := hA.2.1.2.1.2.2
  have hx6 := hA.2.1.2.2.2.1.2.2
  refine call_of (L := [some (.ref x), some (.int a1), some (.int a2), none]) ok_mPF_tag (Nat.le_of_ble_eq_true rfl) ?_
  refine go_aload_n dPF_tag_0 rfl ?_
  refine go_virtN dPF_tag_1 ok_mPF_needPicture im_mPF_needPicture se_mPF_needPicture qm_PF_93 hA.1 (c_PF_needPicture hA) (fun c1 => by
      exact retF (by rw [tgF, if_pos c1]) hA (Sm.refl _ _ _)) (fun c1 => ?_) (hnp := np_mPF_needPicture)
  refine go_iload_n dPF_tag_4 rfl ?_
  refine go_statP dPF_tag_5 ok_mTags_isTag st_mTags_isTag qm_PF_117 c_Tags_isTag ?_ (hnp := np_mTags_isTag)
  refine go_ifne_b (tgt := 21) dPF_tag_8 (fun c2 => ?_) (fun c2 => ?_)
  · refine go_iload_n dPF_tag_21 rfl ?_
    refine go_iconst (v := -1) dPF_tag_22 (by decide) ?_
    refine go_icmp_eq (tgt := 44) dPF_tag_23 (fun c3 => ?_) (fun c3 => ?_)
    · obtain ⟨k5, hk5, rfl⟩ := has_ex (c := 3) (by omega) c2
      refine go_aload_n dPF_tag_44 rfl ?_
      refine go_getf dPF_tag_45 qf_PF_10 hA.1 rfl ?_
      refine go_getf dPF_tag_48 qf_PF_129 hA.2.1.1 rfl ?_
      refine go_iload_n dPF_tag_51 rfl ?_
      refine go_virtP dPF_tag_52 ok_mTags_value im_mTags_value se_mTags_value qm_PF_133 hA.2.1.2.2.1.1 (a_Tags_value hk5 hA.2.1.2.2.1) ?_ (hnp := np_mTags_value)
      refine go_istore_n dPF_tag_55 ?_
      refine go_aload_n dPF_tag_56 rfl ?_
      refine go_getf dPF_tag_57 qf_PF_10 hA.1 rfl ?_
      refine go_getf dPF_tag_60 qf_PF_129 hA.2.1.1 rfl ?_
      refine go_iload_n dPF_tag_63 rfl ?_
      refine go_iload_n dPF_tag_64 rfl ?_
      refine go_virtX dPF_tag_65 ok_mTags_set im_mTags_set se_mTags_set qm_PF_136 hA.2.1.2.2.1.1 (a_Tags_set hk5 hA.2.1.2.2.1) (fun hx4 d4 q4 => ?_) (hnp := np_mTags_set)
      refine go_iload_n dPF_tag_68 rfl ?_
      refine go_iret dPF_tag_69 rfl rfl ?_ (Nat.le_of_ble_eq_true rfl) (Nat.le_of_ble_eq_true rfl)
      have sn := q4.2.sub (a := x + 1) (n := 10) (by omega) (by omega)
      exact retF (by rw [tgF, if_neg (fun q => q c1), if_neg (fun q => q c2), if_neg (fun q => q.1 c3), nI_clamp (n := k5) (by omega)]; rfl) (hA.pic (hA.2.1.tag q4.1 q4.2) sn) (sn.sub (by omega) (by omega))
    · refine go_iload_n dPF_tag_26 rfl ?_
      refine go_iload_n dPF_tag_27 rfl ?_
      refine go_statP dPF_tag_28 ok_mTags_mayBe st_mTags_mayBe qm_PF_124 c_Tags_mayBe ?_ (hnp := np_mTags_mayBe)
      refine go_ifne_b (tgt := 44) dPF_tag_31 (fun c4 => ?_) (fun c4 => ?_)
      · obtain ⟨k5, hk5, rfl⟩ := has_ex (c := 3) (by omega) c2
        refine go_aload_n dPF_tag_44 rfl ?_
        refine go_getf dPF_tag_45 qf_PF_10 hA.1 rfl ?_
        refine go_getf dPF_tag_48 qf_PF_129 hA.2.1.1 rfl ?_
        refine go_iload_n dPF_tag_51 rfl ?_
        refine go_virtP dPF_tag_52 ok_mTags_value im_mTags_value se_mTags_value qm_PF_133 hA.2.1.2.2.1.1 (a_Tags_value hk5 hA.2.1.2.2.1) ?_ (hnp := np_mTags_value)
        refine go_istore_n dPF_tag_55 ?_
        refine go_aload_n dPF_tag_56 rfl ?_
        refine go_getf dPF_tag_57 qf_PF_10 hA.1 rfl ?_
        refine go_getf dPF_tag_60 qf_PF_129 hA.2.1.1 rfl ?_
        refine go_iload_n dPF_tag_63 rfl ?_
        refine go_iload_n dPF_tag_64 rfl ?_
        refine go_virtX dPF_tag_65 ok_mTags_set im_mTags_set se_mTags_set qm_PF_136 hA.2.1.2.2.1.1 (a_Tags_set hk5 hA.2.1.2.2.1) (fun hx5 d5 q5 => ?_) (hnp := np_mTags_set)
        refine go_iload_n dPF_tag_68 rfl ?_
        refine go_iret dPF_tag_69 rfl rfl ?_ (Nat.le_of_ble_eq_true rfl) (Nat.le_of_ble_eq_true rfl)
        have sn := q5.2.sub (a := x + 1) (n := 10) (by omega) (by omega)
        exact retF (by rw [tgF, if_neg (fun q => q c1), if_neg (fun q => q c2), if_neg (fun q => q.2 c4), nI_clamp (n := k5) (by omega)]; rfl) (hA.pic (hA.2.1.tag q5.1 q5.2) sn) (sn.sub (by omega) (by omega))
      · refine go_throw (x := 1) dPF_tag_34 dPF_tag_37 dPF_tag_38 dPF_tag_40 dPF_tag_43 rfl qx_PF_36 qt_PF_127 ?_ rfl
        exact retF (by rw [tgF, if_neg (fun q => q c1), if_neg (fun q => q c2), if_pos ⟨c3, c4⟩]) hA (Sm.refl _ _ _)
  · refine go_throw (x := 1) dPF_tag_11 dPF_tag_14 dPF_tag_15 dPF_tag_17 dPF_tag_20 rfl qx_PF_36 qt_PF_122 ?_ rfl
    exact retF (by rw [tgF, if_neg (fun q => q c1), if_pos c2]) hA (Sm.refl _ _ _)
set_option maxHeartbeats 4000000 in
theorem o_extra {E : pmEv} {h : pmH} {x : Nat} {α : aPF} (hA : PFA h x α) {a1 : Int32} (hS : SA E h x) : Call E mPF_extra [.ref x, .int a1] h none 4 24 (RetF x h (exF α a1)) := by
  obtain ⟨Rw, ow, hW⟩ := hA.2.2.1
  have hw15 := hA.2.2.2.2.1
  have hf20 := hA.2.2.2.2.2
  have ho := hA.2.1.2.2.2.2.2
  have hb := ho.b
  have hkk := ho.k
  have hwh := ho.w
  have hc64 := hA.2.1.2.1.2.2
  have hx6 := hA.2.1.2.2.2.1.2.2
  refine call_of (L := [some (.ref x), some (.int a1)]) ok_mPF_extra (Nat.le_of_ble_eq_true rfl) ?_
  refine go_aload_n dPF_extra_0 rfl ?_
  refine go_virtN dPF_extra_1 ok_mPF_needPicture im_mPF_needPicture se_mPF_needPicture qm_PF_93 hA.1 (c_PF_needPicture hA) (fun c1 => by
      exact retF (by rw [exF, if_pos c1]) hA (Sm.refl _ _ _)) (fun c1 => ?_) (hnp := np_mPF_needPicture)
  refine go_iload_n dPF_extra_4 rfl ?_
  refine go_statP dPF_extra_5 ok_mLetters_areOfExtra st_mLetters_areOfExtra qm_PF_140 c_Letters_areOfExtra ?_ (hnp := np_mLetters_areOfExtra)
  refine go_ifne_b (tgt := 21) dPF_extra_8 (fun c2 => ?_) (fun c2 => ?_)
  · refine go_aload_n dPF_extra_21 rfl ?_
    refine go_getf dPF_extra_22 qf_PF_10 hA.1 rfl ?_
    refine go_getf dPF_extra_25 qf_PF_147 hA.2.1.1 rfl ?_
    refine go_virtP dPF_extra_28 ok_mExtras_isFull im_mExtras_isFull se_mExtras_isFull qm_PF_151 hA.2.1.2.2.2.1.1 (a_Extras_isFull hA.2.1.2.2.2.1) ?_ (hnp := np_mExtras_isFull)
    refine go_ifeq_b (tgt := 44) dPF_extra_31 (fun c3 => ?_) (fun c3 => ?_)
    · refine go_aload_n dPF_extra_44 rfl ?_
      refine go_getf dPF_extra_45 qf_PF_10 hA.1 rfl ?_
      refine go_getf dPF_extra_48 qf_PF_147 hA.2.1.1 rfl ?_
      refine go_iload_n dPF_extra_51 rfl ?_
      refine go_virtX dPF_extra_52 ok_mExtras_add im_mExtras_add se_mExtras_add qm_PF_159 hA.2.1.2.2.2.1.1 (a_Extras_add (Nat.not_le.mp c3) hA.2.1.2.2.2.1) (fun hx4 d4 q4 => ?_) (hnp := np_mExtras_add)
      have sn := q4.2.sub (a := x + 1) (n := 10) (by omega) (by omega)
      have hA4 := hA.pic (hA.2.1.ext q4.1 q4.2) sn
      refine go_aload_n dPF_extra_55 rfl ?_
      refine go_getf dPF_extra_56 qf_PF_10 hA4.1 rfl ?_
      refine go_getf dPF_extra_59 qf_PF_147 hA4.2.1.1 rfl ?_
      refine go_getf dPF_extra_62 qf_PF_162 hA4.2.1.2.2.2.1.1 rfl ?_
      refine go_iret dPF_extra_65 rfl rfl ?_ (Nat.le_of_ble_eq_true rfl) (Nat.le_of_ble_eq_true rfl)
      exact retF (by rw [exF, if_neg (fun q => q c1), if_neg (fun q => q c2), if_neg c3]; rfl) hA4 (sn.sub (by omega) (by omega))
    · refine go_throw (x := 3) dPF_extra_34 dPF_extra_37 dPF_extra_38 dPF_extra_40 dPF_extra_43 rfl qx_PF_82 qt_PF_157 ?_ rfl
      exact retF (by rw [exF, if_neg (fun q => q c1), if_neg (fun q => q c2), if_pos c3]) hA (Sm.refl _ _ _)
  · refine go_throw (x := 1) dPF_extra_11 dPF_extra_14 dPF_extra_15 dPF_extra_17 dPF_extra_20 rfl qx_PF_36 qt_PF_145 ?_ rfl
    exact retF (by rw [exF, if_neg (fun q => q c1), if_pos c2]) hA (Sm.refl _ _ _)
set_option maxHeartbeats 4000000 in
theorem o_byteOf {E : pmEv} {h : pmH} {x : Nat} {α : aPF} (hA : PFA h x α) {a1 a2 : Int32} (hS : SA E h x) : Call E mPF_byteOf [.ref x, .int a1, .int a2] h none 4 24 (RetF x h (boF α a1 a2)) := by
  obtain ⟨Rw, ow, hW⟩ := hA.2.2.1
  have hw15 := hA.2.2.2.2.1
  have hf20 := hA.2.2.2.2.2
  have ho := hA.2.1.2.2.2.2.2
  have hb := ho.b
  have hkk := ho.k
  have hwh := ho.w
  have hc64 := hA.2.1.2.1.2.2
  have hx6 := hA.2.1.2.2.2.1.2.2
  refine call_of (L := [some (.ref x), some (.int a1), some (.int a2)]) ok_mPF_byteOf (Nat.le_of_ble_eq_true rfl) ?_
  refine go_aload_n dPF_byteOf_0 rfl ?_
  refine go_virtN dPF_byteOf_1 ok_mPF_needPicture im_mPF_needPicture se_mPF_needPicture qm_PF_93 hA.1 (c_PF_needPicture hA) (fun c1 => by
      exact retF (by rw [boF, if_pos c1]) hA (Sm.refl _ _ _)) (fun c1 => ?_) (hnp := np_mPF_needPicture)
  refine go_aload_n dPF_byteOf_4 rfl ?_
  refine go_getf dPF_byteOf_5 qf_PF_10 hA.1 rfl ?_
  refine go_getf dPF_byteOf_8 qf_PF_147 hA.2.1.1 rfl ?_
  refine go_iload_n dPF_byteOf_11 rfl ?_
  refine go_virtP dPF_byteOf_12 ok_mExtras_has im_mExtras_has se_mExtras_has qm_PF_163 hA.2.1.2.2.2.1.1 (a_Extras_has hA.2.1.2.2.2.1) ?_ (hnp := np_mExtras_has)
  refine go_ifne_b (tgt := 28) dPF_byteOf_15 (fun c2 => ?_) (fun c2 => ?_)
  · obtain ⟨k5, hk5, rfl⟩ := has_ex (by omega) c2
    have hz5 := ex_sz hA.2.1.2.2.2.1 k5 hk5
    refine go_iload_n dPF_byteOf_28 rfl ?_
    refine go_statN dPF_byteOf_29 ok_mPF_needByte st_mPF_needByte qm_PF_167 c_PF_needByte (fun c3 => by
        exact retF (by rw [boF, if_neg (fun q => q c1), if_neg (fun q => q c2), if_pos c3]) hA (Sm.refl _ _ _)) (fun c3 => ?_) (hnp := np_mPF_needByte)
    refine go_aload_n dPF_byteOf_32 rfl ?_
    refine go_getf dPF_byteOf_33 qf_PF_10 hA.1 rfl ?_
    refine go_getf dPF_byteOf_36 qf_PF_147 hA.2.1.1 rfl ?_
    refine go_iload_n dPF_byteOf_39 rfl ?_
    refine go_virtP dPF_byteOf_40 ok_mExtras_lengthOf im_mExtras_lengthOf se_mExtras_lengthOf qm_PF_170 hA.2.1.2.2.2.1.1 (a_Extras_lengthOf (k := k5) (by exact hk5) hA.2.1.2.2.2.1) ?_ (hnp := np_mExtras_lengthOf)
    refine go_bipush (v := 40) dPF_byteOf_43 (by decide) ?_
    refine go_icmp_lt (tgt := 58) dPF_byteOf_45 (fun c4 => ?_) (fun c4 => ?_)
    · have hlt : α.1.2.2.2.2.2.2.1 k5 < 40 := Nat.not_le.mp fun q => absurd c4 (Int32.not_lt.mpr (nI_le (a := 40) q (by omega)))
      refine go_aload_n dPF_byteOf_58 rfl ?_
      refine go_getf dPF_byteOf_59 qf_PF_10 hA.1 rfl ?_
      refine go_getf dPF_byteOf_62 qf_PF_147 hA.2.1.1 rfl ?_
      refine go_iload_n dPF_byteOf_65 rfl ?_
      refine go_iload_n dPF_byteOf_66 rfl ?_
      refine go_virtX dPF_byteOf_67 ok_mExtras_addByte im_mExtras_addByte se_mExtras_addByte qm_PF_175 hA.2.1.2.2.2.1.1 (a_Extras_addByte (k := k5) hk5 hlt hA.2.1.2.2.2.1) (fun hx5 d5 q5 => ?_) (hnp := np_mExtras_addByte)
      have sn := q5.2.sub (a := x + 1) (n := 10) (by omega) (by omega)
      have hA5 := hA.pic (hA.2.1.ext q5.1 q5.2) sn
      refine go_aload_n dPF_byteOf_70 rfl ?_
      refine go_getf dPF_byteOf_71 qf_PF_10 hA5.1 rfl ?_
      refine go_getf dPF_byteOf_74 qf_PF_147 hA5.2.1.1 rfl ?_
      refine go_iload_n dPF_byteOf_77 rfl ?_
      refine go_virtP dPF_byteOf_78 ok_mExtras_lengthOf im_mExtras_lengthOf se_mExtras_lengthOf qm_PF_170 hA5.2.1.2.2.2.1.1 (a_Extras_lengthOf (k := k5) (by exact hk5) hA5.2.1.2.2.2.1) ?_ (hnp := np_mExtras_lengthOf)
      refine go_iret dPF_byteOf_81 rfl rfl ?_ (Nat.le_of_ble_eq_true rfl) (Nat.le_of_ble_eq_true rfl)
      exact retF (by rw [boF, if_neg (fun q => q c1), if_neg (fun q => q c2), if_neg (fun q => q c3), nI_clamp (n := k5) (by omega), if_neg (Nat.not_le.mpr hlt)]; show _ = (Sum.inl (some (Value.int (nI (updN α.1.2.2.2.2.2.2.1 k5 (α.1.2.2.2.2.2.2.1 k5 + 1) k5)))), _); rw [updN_s]) hA5 (sn.sub (by omega) (by omega))
    · refine go_throw (x := 3) dPF_byteOf_48 dPF_byteOf_51 dPF_byteOf_52 dPF_byteOf_54 dPF_byteOf_57 rfl qx_PF_82 qt_PF_173 ?_ rfl
      exact retF (by rw [boF, if_neg (fun q => q c1), if_neg (fun q => q c2), if_neg (fun q => q c3), nI_clamp (n := k5) (by omega), if_pos (Nat.not_lt.mp fun q => c4 (nI_lt (b := 40) q (by omega)))]) hA (Sm.refl _ _ _)
  · refine go_throw (x := 2) dPF_byteOf_18 dPF_byteOf_21 dPF_byteOf_22 dPF_byteOf_24 dPF_byteOf_27 rfl qx_PF_100 qt_PF_165 ?_ rfl
    exact retF (by rw [boF, if_neg (fun q => q c1), if_pos c2]) hA (Sm.refl _ _ _)
set_option maxHeartbeats 4000000 in
theorem o_reduce {E : pmEv} {h : pmH} {x : Nat} {α : aPF} (hA : PFA h x α) (hS : SA E h x) : Call E mPF_reduce [.ref x] h none 4 24 (RetF x h (reF α)) := by
  obtain ⟨Rw, ow, hW⟩ := hA.2.2.1
  have hw15 := hA.2.2.2.2.1
  have hf20 := hA.2.2.2.2.2
  have ho := hA.2.1.2.2.2.2.2
  have hb := ho.b
  have hkk := ho.k
  have hwh := ho.w
  have hc64 := hA.2.1.2.1.2.2
  have hx6 := hA.2.1.2.2.2.1.2.2
  refine call_of (L := [some (.ref x)]) ok_mPF_reduce (Nat.le_of_ble_eq_true rfl) ?_
  refine go_aload_n dPF_reduce_0 rfl ?_
  refine go_virtN dPF_reduce_1 ok_mPF_needPicture im_mPF_needPicture se_mPF_needPicture qm_PF_93 hA.1 (c_PF_needPicture hA) (fun c1 => by
      exact retF (by rw [reF, if_pos c1]) hA (Sm.refl _ _ _)) (fun c1 => ?_) (hnp := np_mPF_needPicture)
  refine go_aload_n dPF_reduce_4 rfl ?_
  refine go_getf dPF_reduce_5 qf_PF_10 hA.1 rfl ?_
  refine go_statX dPF_reduce_8 ok_mLess_lessen st_mLess_lessen qm_PF_178 (a_Less_lessen hA.2.1) (fun hx2 d2 q2 => ?_) (hnp := np_mLess_lessen)
  refine go_bipush (v := 10) dPF_reduce_11 (by decide) ?_
  refine go_aload_n dPF_reduce_13 rfl ?_
  refine go_getf dPF_reduce_14 qf_PF_10 (hA.pic q2.1 q2.2).1 rfl ?_
  refine go_getf dPF_reduce_17 qf_PF_51 (hA.pic q2.1 q2.2).2.1.1 rfl ?_
  refine go_imul dPF_reduce_20 ?_
  refine go_aload_n dPF_reduce_21 rfl ?_
  refine go_getf dPF_reduce_22 qf_PF_10 (hA.pic q2.1 q2.2).1 rfl ?_
  refine go_getf dPF_reduce_25 qf_PF_75 (hA.pic q2.1 q2.2).2.1.1 rfl ?_
  refine go_iadd dPF_reduce_28 ?_
  refine go_iret dPF_reduce_29 rfl rfl ?_ (Nat.le_of_ble_eq_true rfl) (Nat.le_of_ble_eq_true rfl)
  exact retF (by rw [reF, if_neg (fun q => q c1)]) (hA.pic q2.1 q2.2) (q2.2.sub (by omega) (by omega))
set_option maxHeartbeats 4000000 in
theorem o_write {E : pmEv} {h : pmH} {x : Nat} {α : aPF} (hA : PFA h x α) (hS : SA E h x) : Call E mPF_write [.ref x] h none 4 24 (RetF x h (wrF α)) := by
  obtain ⟨Rw, ow, hW⟩ := hA.2.2.1
  have hw15 := hA.2.2.2.2.1
  have hf20 := hA.2.2.2.2.2
  have ho := hA.2.1.2.2.2.2.2
  have hb := ho.b
  have hkk := ho.k
  have hwh := ho.w
  have hc64 := hA.2.1.2.1.2.2
  have hx6 := hA.2.1.2.2.2.1.2.2
  have hq := pkC_le ho
  refine call_of (L := [some (.ref x)]) ok_mPF_write (Nat.le_of_ble_eq_true rfl) ?_
  refine go_aload_n dPF_write_0 rfl ?_
  refine go_virtN dPF_write_1 ok_mPF_needPicture im_mPF_needPicture se_mPF_needPicture qm_PF_93 hA.1 (c_PF_needPicture hA) (fun c1 => by
      exact retF (by rw [wrF, if_pos c1]) hA (Sm.refl _ _ _)) (fun c1 => ?_) (hnp := np_mPF_needPicture)
  refine go_aload_n dPF_write_4 rfl ?_
  refine go_getf dPF_write_5 qf_PF_10 hA.1 rfl ?_
  refine go_getf dPF_write_8 qf_PF_51 hA.2.1.1 rfl ?_
  refine go_iconst (v := 3) dPF_write_11 (by decide) ?_
  refine go_icmp_ne (tgt := 38) dPF_write_12 (fun c2 => ?_) (fun c2 => ?_)
  · refine go_aload_n dPF_write_38 rfl ?_
    refine go_getf dPF_write_39 qf_PF_19 hA.1 rfl ?_
    refine go_aload_n dPF_write_42 rfl ?_
    refine go_getf dPF_write_43 qf_PF_10 hA.1 rfl ?_
    refine go_virtX dPF_write_46 ok_mWriting_run im_mWriting_run se_mWriting_run qm_PF_186 hW.1 (a_Writing_run (hS.le (by omega)) (by omega) hq.1 hq.2 hA.2.1 hW) (fun hx3 d3 q3 => ?_) (hnp := np_mWriting_run)
    obtain ⟨⟨o9, hW9⟩, s9⟩ := q3
    have hA9 := hA.wri hW9 (wrAll_2 hc64 hx6 hq.1 hq.2 (ex_sz hA.2.1.2.2.2.1) _) s9
    have hW := hW9
    refine go_aload_n dPF_write_49 rfl ?_
    refine go_getf dPF_write_50 qf_PF_19 hA9.1 rfl ?_
    refine go_getf dPF_write_53 qf_PF_189 hW.1 rfl ?_
    refine go_getf dPF_write_56 qf_PF_193 hW.2.1.1 rfl ?_
    rw [Nat.min_eq_right (wrAll_2 hc64 hx6 hq.1 hq.2 (ex_sz hA.2.1.2.2.2.1) _)]
    refine go_iret dPF_write_59 rfl rfl ?_ (Nat.le_of_ble_eq_true rfl) (Nat.le_of_ble_eq_true rfl)
    exact retF (by rw [wrF, if_neg (fun q => q c1), if_neg (fun q => c2 q.1)]) hA9 (s9.sub (by omega) (by omega))
  · refine go_aload_n dPF_write_15 rfl ?_
    refine go_getf dPF_write_16 qf_PF_10 hA.1 rfl ?_
    refine go_getf dPF_write_19 qf_PF_66 hA.2.1.1 rfl ?_
    refine go_getf dPF_write_22 qf_PF_70 hA.2.1.2.1.1 rfl ?_
    refine go_if_ne (tgt := 38) dPF_write_25 (fun c3 => ?_) (fun c3 => ?_)
    · refine go_aload_n dPF_write_38 rfl ?_
      refine go_getf dPF_write_39 qf_PF_19 hA.1 rfl ?_
      refine go_aload_n dPF_write_42 rfl ?_
      refine go_getf dPF_write_43 qf_PF_10 hA.1 rfl ?_
      refine go_virtX dPF_write_46 ok_mWriting_run im_mWriting_run se_mWriting_run qm_PF_186 hW.1 (a_Writing_run (hS.le (by omega)) (by omega) hq.1 hq.2 hA.2.1 hW) (fun hx4 d4 q4 => ?_) (hnp := np_mWriting_run)
      obtain ⟨⟨o9, hW9⟩, s9⟩ := q4
      have hA9 := hA.wri hW9 (wrAll_2 hc64 hx6 hq.1 hq.2 (ex_sz hA.2.1.2.2.2.1) _) s9
      have hW := hW9
      refine go_aload_n dPF_write_49 rfl ?_
      refine go_getf dPF_write_50 qf_PF_19 hA9.1 rfl ?_
      refine go_getf dPF_write_53 qf_PF_189 hW.1 rfl ?_
      refine go_getf dPF_write_56 qf_PF_193 hW.2.1.1 rfl ?_
      rw [Nat.min_eq_right (wrAll_2 hc64 hx6 hq.1 hq.2 (ex_sz hA.2.1.2.2.2.1) _)]
      refine go_iret dPF_write_59 rfl rfl ?_ (Nat.le_of_ble_eq_true rfl) (Nat.le_of_ble_eq_true rfl)
      exact retF (by rw [wrF, if_neg (fun q => q c1), if_neg (fun q => c3 (by rw [q.2]; rfl))]) hA9 (s9.sub (by omega) (by omega))
    · refine go_throw (x := 0) dPF_write_28 dPF_write_31 dPF_write_32 dPF_write_34 dPF_write_37 rfl qx_PF_55 qt_PF_184 ?_ rfl
      exact retF (by rw [wrF, if_neg (fun q => q c1), if_pos ⟨c2, (nI_inj (b := 0) (by omega) (by omega)).mp c3⟩]) hA (Sm.refl _ _ _)
set_option maxHeartbeats 4000000 in
theorem o_byteAt {E : pmEv} {h : pmH} {x : Nat} {α : aPF} (hA : PFA h x α) {a1 : Int32} (hS : SA E h x) : Call E mPF_byteAt [.ref x, .int a1] h none 4 24 (RetF x h (baF α a1)) := by
  obtain ⟨Rw, ow, hW⟩ := hA.2.2.1
  have hw15 := hA.2.2.2.2.1
  have hf20 := hA.2.2.2.2.2
  have ho := hA.2.1.2.2.2.2.2
  have hb := ho.b
  have hkk := ho.k
  have hwh := ho.w
  have hc64 := hA.2.1.2.1.2.2
  have hx6 := hA.2.1.2.2.2.1.2.2
  refine call_of (L := [some (.ref x), some (.int a1)]) ok_mPF_byteAt (Nat.le_of_ble_eq_true rfl) ?_
  refine go_aload_n dPF_byteAt_0 rfl ?_
  refine go_iload_n dPF_byteAt_1 rfl ?_
  refine go_virtN dPF_byteAt_2 ok_mPF_needWritten im_mPF_needWritten se_mPF_needWritten qm_PF_196 hA.1 (c_PF_needWritten hA) (fun c1 => by
      exact retF (by rw [baF, if_pos c1]) hA (Sm.refl _ _ _)) (fun c1 => ?_) (hnp := np_mPF_needWritten)
  refine go_aload_n dPF_byteAt_5 rfl ?_
  refine go_getf dPF_byteAt_6 qf_PF_19 hA.1 rfl ?_
  refine go_getf dPF_byteAt_9 qf_PF_189 hW.1 rfl ?_
  refine go_iload_n dPF_byteAt_12 rfl ?_
  refine go_virtP dPF_byteAt_13 ok_mBytes_value im_mBytes_value se_mBytes_value qm_PF_199 hW.2.1.1 (a_Bytes_value hW.2.1 hw15) ?_ (hnp := np_mBytes_value)
  rw [bv, if_pos c1]
  refine go_iret dPF_byteAt_16 rfl rfl ?_ (Nat.le_of_ble_eq_true rfl) (Nat.le_of_ble_eq_true rfl)
  exact retF (by rw [baF, if_neg (fun q => q c1)]) hA (Sm.refl _ _ _)
set_option maxHeartbeats 4000000 in
theorem o_feed {E : pmEv} {h : pmH} {x : Nat} {α : aPF} (hA : PFA h x α) {a1 : Int32} (hS : SA E h x) : Call E mPF_feed [.ref x, .int a1] h none 4 24 (RetF x h (feF α a1)) := by
  obtain ⟨Rw, ow, hW⟩ := hA.2.2.1
  have hw15 := hA.2.2.2.2.1
  have hf20 := hA.2.2.2.2.2
  have ho := hA.2.1.2.2.2.2.2
  have hb := ho.b
  have hkk := ho.k
  have hwh := ho.w
  have hc64 := hA.2.1.2.1.2.2
  have hx6 := hA.2.1.2.2.2.1.2.2
  refine call_of (L := [some (.ref x), some (.int a1)]) ok_mPF_feed (Nat.le_of_ble_eq_true rfl) ?_
  refine go_iload_n dPF_feed_0 rfl ?_
  refine go_statN dPF_feed_1 ok_mPF_needByte st_mPF_needByte qm_PF_167 c_PF_needByte (fun c1 => by
      exact retF (by rw [feF, if_pos c1]) hA (Sm.refl _ _ _)) (fun c1 => ?_) (hnp := np_mPF_needByte)
  refine go_aload_n dPF_feed_4 rfl ?_
  refine go_iconst (v := 1) dPF_feed_5 (by decide) ?_
  refine go_virtN dPF_feed_6 ok_mPF_needRoom im_mPF_needRoom se_mPF_needRoom qm_PF_200 hA.1 (c_PF_needRoom hA) (fun c2 => by
      exact retF (by rw [feF, if_neg (fun q => q c1), if_pos c2]) hA (Sm.refl _ _ _)) (fun c2 => ?_) (hnp := np_mPF_needRoom)
  refine go_aload_n dPF_feed_9 rfl ?_
  refine go_getf dPF_feed_10 qf_PF_26 hA.1 rfl ?_
  refine go_getf dPF_feed_13 qf_PF_203 hA.2.2.2.1.1 rfl ?_
  refine go_iload_n dPF_feed_16 rfl ?_
  refine go_virtX dPF_feed_17 ok_mBytes_add im_mBytes_add se_mBytes_add qm_PF_206 hA.2.2.2.1.2.1.1 (a_Bytes_add hA.2.2.2.1.2.1) (fun hx3 d3 q3 => ?_) (hnp := np_mBytes_add)
  have hlt := room_n (m := 1) (by omega) hf20 c2
  have hA9 := hA.fed q3.1 q3.2 hlt
  refine go_aload_n dPF_feed_20 rfl ?_
  refine go_getf dPF_feed_21 qf_PF_26 hA9.1 rfl ?_
  refine go_getf dPF_feed_24 qf_PF_203 hA9.2.2.2.1.1 rfl ?_
  refine go_getf dPF_feed_27 qf_PF_193 hA9.2.2.2.1.2.1.1 rfl ?_
  refine go_top (y := nI (α.2.2.1.2 + 1)) (by show nI (min 2000 (α.2.2.1.2 + 1)) = _; rw [Nat.min_eq_right hlt]) ?_
  refine go_iret dPF_feed_30 rfl rfl ?_ (Nat.le_of_ble_eq_true rfl) (Nat.le_of_ble_eq_true rfl)
  exact retF (by rw [feF, if_neg (fun q => q c1), if_neg (fun q => q c2)]) hA9 (q3.2.sub (by omega) (by omega))
set_option maxHeartbeats 4000000 in
theorem o_alter {E : pmEv} {h : pmH} {x : Nat} {α : aPF} (hA : PFA h x α) {a1 a2 a3 : Int32} (hS : SA E h x) : Call E mPF_alter [.ref x, .int a1, .int a2, .int a3] h none 4 24 (RetF x h (alF α a1 a2 a3)) := by
  obtain ⟨Rw, ow, hW⟩ := hA.2.2.1
  have hw15 := hA.2.2.2.2.1
  have hf20 := hA.2.2.2.2.2
  have ho := hA.2.1.2.2.2.2.2
  have hb := ho.b
  have hkk := ho.k
  have hwh := ho.w
  have hc64 := hA.2.1.2.1.2.2
  have hx6 := hA.2.1.2.2.2.1.2.2
  refine call_of (L := [some (.ref x), some (.int a1), some (.int a2), some (.int a3), none]) ok_mPF_alter (Nat.le_of_ble_eq_true rfl) ?_
  refine go_aload_n dPF_alter_0 rfl ?_
  refine go_getf dPF_alter_1 qf_PF_26 hA.1 rfl ?_
  refine go_getf dPF_alter_4 qf_PF_203 hA.2.2.2.1.1 rfl ?_
  refine go_iload_n dPF_alter_7 rfl ?_
  refine go_virtP dPF_alter_8 ok_mBytes_has im_mBytes_has se_mBytes_has qm_PF_215 hA.2.2.2.1.2.1.1 (a_Bytes_has hA.2.2.2.1.2.1 hf20) ?_ (hnp := np_mBytes_has)
  refine go_ifne_b (tgt := 24) dPF_alter_11 (fun c1 => ?_) (fun c1 => ?_)
  · obtain ⟨j5, hj5, rfl⟩ := has_ex (by omega) c1
    refine go_iload_n dPF_alter_24 rfl ?_
    refine go_statN dPF_alter_25 ok_mPF_needByte st_mPF_needByte qm_PF_167 c_PF_needByte (fun c2 => by
        exact retF (by rw [alF, if_neg (fun q => q c1), if_pos c2]) hA (Sm.refl _ _ _)) (fun c2 => ?_) (hnp := np_mPF_needByte)
    refine go_aload_n dPF_alter_28 rfl ?_
    refine go_getf dPF_alter_29 qf_PF_26 hA.1 rfl ?_
    refine go_getf dPF_alter_32 qf_PF_203 hA.2.2.2.1.1 rfl ?_
    refine go_iload_n dPF_alter_35 rfl ?_
    refine go_virtP dPF_alter_36 ok_mBytes_value im_mBytes_value se_mBytes_value qm_PF_199 hA.2.2.2.1.2.1.1 (a_Bytes_valN hA.2.2.2.1.2.1 hf20 hj5) ?_ (hnp := np_mBytes_value)
    refine go_istore dPF_alter_39 ?_
    refine go_aload_n dPF_alter_41 rfl ?_
    refine go_getf dPF_alter_42 qf_PF_26 hA.1 rfl ?_
    refine go_getf dPF_alter_45 qf_PF_203 hA.2.2.2.1.1 rfl ?_
    refine go_iload_n dPF_alter_48 rfl ?_
    refine go_iload_n dPF_alter_49 rfl ?_
    refine go_virtX dPF_alter_50 ok_mBytes_set im_mBytes_set se_mBytes_set qm_PF_218 hA.2.2.2.1.2.1.1 (a_Bytes_set hA.2.2.2.1.2.1 hf20 hj5) (fun hx3 d3 q3 => ?_) (hnp := np_mBytes_set)
    refine go_iload_n dPF_alter_53 rfl ?_
    refine go_if_eq (tgt := 68) dPF_alter_54 (fun c4 => ?_) (fun c4 => ?_)
    · refine go_iload dPF_alter_68 rfl ?_
      refine go_iret dPF_alter_70 rfl rfl ?_ (Nat.le_of_ble_eq_true rfl) (Nat.le_of_ble_eq_true rfl)
      exact retF (by rw [alF, if_neg (fun q => q c1), if_neg (fun q => q c2), nI_clamp (n := j5) (by omega), if_pos c4]) (hA.fed q3.1 q3.2 hf20) (q3.2.sub (by omega) (by omega))
    · refine go_aload_n dPF_alter_57 rfl ?_
      refine go_getf dPF_alter_58 qf_PF_26 (hA.fed q3.1 q3.2 hf20).1 rfl ?_
      refine go_getf dPF_alter_61 qf_PF_203 (hA.fed q3.1 q3.2 hf20).2.2.2.1.1 rfl ?_
      refine go_iload_n dPF_alter_64 rfl ?_
      refine go_virtX dPF_alter_65 ok_mBytes_mendSum im_mBytes_mendSum se_mBytes_mendSum qm_PF_219 (hA.fed q3.1 q3.2 hf20).2.2.2.1.2.1.1 (a_Bytes_mendSum ((hS.sm q3.2 (by omega)).le (by omega)) q3.1 hf20 (show α.2.2.1.2 ≤ 4000 by omega) (show j5 < α.2.2.1.2 from hj5)) (fun hx5 d5 q5 => ?_) (hnp := np_mBytes_mendSum)
      refine go_iload dPF_alter_68 rfl ?_
      refine go_iret dPF_alter_70 rfl rfl ?_ (Nat.le_of_ble_eq_true rfl) (Nat.le_of_ble_eq_true rfl)
      have s9 := q3.2.trans q5.2
      exact retF (by rw [alF, if_neg (fun q => q c1), if_neg (fun q => q c2), nI_clamp (n := j5) (by omega), if_neg c4]) (hA.fed q5.1 s9 (by rw [mendBy_2]; exact hf20)) (s9.sub (by omega) (by omega))
  · refine go_throw (x := 2) dPF_alter_14 dPF_alter_17 dPF_alter_18 dPF_alter_20 dPF_alter_23 rfl qx_PF_100 qt_PF_216 ?_ rfl
    exact retF (by rw [alF, if_pos c1]) hA (Sm.refl _ _ _)
set_option maxHeartbeats 4000000 in
theorem l_PF_pass {E : pmEv} {h0 : pmH} {x : Nat} {α : aPF} {f e : Nat} {a2 : Int32} {C : aRow} (hf : f + e ≤ α.2.1.2) : ∀ (n : Nat) (i : Nat) (q : aRow) (h : pmH) (d : Bool), i + n = e → q.2 + n ≤ 2000 → PFA h x (α.1, α.2.1, q, α.2.2.2) → Sm h0 h x 31 → C = wAs α.2.1.1 (f + i) n q → Go E (mPF_pass, h0, 4, 24) 44 [some (.ref x), some (.int (nI f)), some (.int a2), some (.int (nI e)), some (.int (nI i))] [] (h, none, d) 2 12 (RetF x h0 (.inl (some (.int (nI e))), (α.1, α.2.1, C, α.2.2.2))) := by
  intro n
  induction n with
  | zero =>
    intro i q h d hi hq hA hs hC
    obtain ⟨Rw, ow, hW⟩ := hA.2.2.1
    have hw15 : α.2.1.2 ≤ 1115 := hA.2.2.2.2.1
    refine go_iload dPF_pass_44 rfl ?_
    refine go_iload_n dPF_pass_46 rfl ?_
    refine go_icmp_ge (tgt := 80) dPF_pass_47 (fun c1 => ?_) (fun c1 => ?_)
    · refine go_iload_n dPF_pass_80 rfl ?_
      refine go_iret dPF_pass_81 rfl rfl ?_ (Nat.le_of_ble_eq_true rfl) (Nat.le_of_ble_eq_true rfl)
      exact retF rfl (by rw [hC, wAs]; exact hA) hs
    · exact absurd (nI_le (a := e) (b := i) (by omega) (by omega)) c1
  | succ n ih =>
    intro i q h d hi hq hA hs hC
    obtain ⟨Rw, ow, hW⟩ := hA.2.2.1
    have hw15 : α.2.1.2 ≤ 1115 := hA.2.2.2.2.1
    refine go_iload dPF_pass_44 rfl ?_
    refine go_iload_n dPF_pass_46 rfl ?_
    refine go_icmp_ge (tgt := 80) dPF_pass_47 (fun c1 => ?_) (fun c1 => ?_)
    · exact absurd c1 (nI_ge (a := i) (b := e) (by omega) (by omega))
    · refine go_aload_n dPF_pass_50 rfl ?_
      refine go_getf dPF_pass_51 qf_PF_26 hA.1 rfl ?_
      refine go_getf dPF_pass_54 qf_PF_203 hA.2.2.2.1.1 rfl ?_
      refine go_aload_n dPF_pass_57 rfl ?_
      refine go_getf dPF_pass_58 qf_PF_19 hA.1 rfl ?_
      refine go_getf dPF_pass_61 qf_PF_189 hW.1 rfl ?_
      refine go_iload_n dPF_pass_64 rfl ?_
      refine go_iload dPF_pass_65 rfl ?_
      refine go_iadd dPF_pass_67 ?_
      rw [nI_add]
      refine go_virtP dPF_pass_68 ok_mBytes_value im_mBytes_value se_mBytes_value qm_PF_199 hW.2.1.1 (a_Bytes_valN (j := f + i) hW.2.1 hw15 (show f + i < α.2.1.2 by omega)) ?_ (hnp := np_mBytes_value)
      refine go_virtX dPF_pass_71 ok_mBytes_add im_mBytes_add se_mBytes_add qm_PF_206 hA.2.2.2.1.2.1.1 (a_Bytes_add hA.2.2.2.1.2.1) (fun hx2 d2 q2 => ?_) (hnp := np_mBytes_add)
      refine go_iinc dPF_pass_74 rfl (congrArg (_ + ·) lit1) ?_
      refine go_goto (tgt := 44) dPF_pass_77 ?_
      exact go_at (ih (i + 1) _ hx2 d2 (by omega) (show q.2 + 1 + n ≤ 2000 by omega) (hA.fed q2.1 q2.2 (show q.2 + 1 ≤ 2000 by omega)) (hs.trans (q2.2.sub (by omega) (by omega))) (by rw [hC, wAs]; rfl)) rfl (by rw [nI_succ i]; rfl) rfl rfl
set_option maxHeartbeats 4000000 in
theorem o_pass {E : pmEv} {h : pmH} {x : Nat} {α : aPF} (hA : PFA h x α) {a1 a2 : Int32} (hS : SA E h x) : Call E mPF_pass [.ref x, .int a1, .int a2] h none 4 24 (RetF x h (paF α a1 a2)) := by
  obtain ⟨Rw, ow, hW⟩ := hA.2.2.1
  have hw15 := hA.2.2.2.2.1
  have hf20 := hA.2.2.2.2.2
  have ho := hA.2.1.2.2.2.2.2
  have hb := ho.b
  have hkk := ho.k
  have hwh := ho.w
  have hc64 := hA.2.1.2.1.2.2
  have hx6 := hA.2.1.2.2.2.1.2.2
  refine call_of (L := [some (.ref x), some (.int a1), some (.int a2), none, none]) ok_mPF_pass (Nat.le_of_ble_eq_true rfl) ?_
  refine go_aload_n dPF_pass_0 rfl ?_
  refine go_iload_n dPF_pass_1 rfl ?_
  refine go_virtN dPF_pass_2 ok_mPF_needWritten im_mPF_needWritten se_mPF_needWritten qm_PF_196 hA.1 (c_PF_needWritten hA) (fun c1 => by
      exact retF (by rw [paF, if_pos c1]) hA (Sm.refl _ _ _)) (fun c1 => ?_) (hnp := np_mPF_needWritten)
  obtain ⟨f5, hf5, rfl⟩ := has_ex (by omega) c1
  refine go_iload_n dPF_pass_5 rfl ?_
  refine go_if_ge (tgt := 19) dPF_pass_6 (fun c2 => ?_) (fun c2 => ?_)
  · obtain ⟨m5, hm5, rfl⟩ := nI_of (Int32.not_lt.mpr c2)
    refine go_iload_n dPF_pass_19 rfl ?_
    refine go_aload_n dPF_pass_20 rfl ?_
    refine go_getf dPF_pass_21 qf_PF_19 hA.1 rfl ?_
    refine go_getf dPF_pass_24 qf_PF_189 hW.1 rfl ?_
    refine go_getf dPF_pass_27 qf_PF_193 hW.2.1.1 rfl ?_
    rw [Nat.min_eq_right hw15]
    refine go_iload_n dPF_pass_30 rfl ?_
    refine go_isub dPF_pass_31 ?_
    rw [pk_sub (show f5 ≤ α.2.1.2 by omega)]
    refine go_statP dPF_pass_32 ok_mMath_min st_mMath_min qm_PF_209 c_Math_min ?_ (hnp := np_mMath_min)
    rw [mn_n hm5 (by omega)]
    refine go_istore_n dPF_pass_35 ?_
    refine go_aload_n dPF_pass_36 rfl ?_
    refine go_iload_n dPF_pass_37 rfl ?_
    refine go_virtN dPF_pass_38 ok_mPF_needRoom im_mPF_needRoom se_mPF_needRoom qm_PF_200 hA.1 (c_PF_needRoom (a1 := nI (min m5 (α.2.1.2 - f5))) hA) (fun c3 => by
        exact retF (by rw [paF, if_neg (fun q => q c1), if_neg (Int32.not_lt.mpr c2), nI_clamp (n := f5) (by omega), nI_clamp (n := m5) hm5, if_pos (Nat.not_le.mp fun q => c3 (room_y (by omega) hf20 (by omega)))]) hA (Sm.refl _ _ _)) (fun c3 => ?_) (hnp := np_mPF_needRoom)
    refine go_iconst (v := 0) dPF_pass_41 (by decide) ?_
    refine go_istore dPF_pass_42 ?_
    have hr := room_n (by omega) hf20 c3
    exact (l_PF_pass (α := α) (by omega) (min m5 (α.2.1.2 - f5)) 0 α.2.2.1 h false (by omega) (by omega) hA (Sm.refl _ _ _) rfl).mono fun o S q => by rw [paF, if_neg (fun q => q c1), if_neg (Int32.not_lt.mpr c2), nI_clamp (n := f5) (by omega), nI_clamp (n := m5) hm5, if_neg (Nat.not_lt.mpr (by omega))]; exact q
  · refine go_throw (x := 1) dPF_pass_9 dPF_pass_12 dPF_pass_13 dPF_pass_15 dPF_pass_18 rfl qx_PF_36 qt_PF_207 ?_ rfl
    exact retF (by rw [paF, if_neg (fun q => q c1), if_pos (Int32.not_le.mp c2)]) hA (Sm.refl _ _ _)
set_option maxHeartbeats 4000000 in
theorem o_read {E : pmEv} {h : pmH} {x : Nat} {α : aPF} (hA : PFA h x α) (hS : SA E h x) : Call E mPF_read [.ref x] h none 4 24 (fun o S => ∃ S', rdE (rdAll α.2.2.1 α.2.2.2) S' ∧ o = .inl (some (.int (rdV (rdAll α.2.2.1 α.2.2.2)))) ∧ PFA S.1 x (α.1, α.2.1, α.2.2.1, S') ∧ Sm h S.1 x 31 ∧ S.2.1 = none) := by
  obtain ⟨Rw, ow, hW⟩ := hA.2.2.1
  have hw15 := hA.2.2.2.2.1
  have hf20 := hA.2.2.2.2.2
  have ho := hA.2.1.2.2.2.2.2
  have hb := ho.b
  have hkk := ho.k
  have hwh := ho.w
  have hc64 := hA.2.1.2.1.2.2
  have hx6 := hA.2.1.2.2.2.1.2.2
  refine call_of (L := [some (.ref x)]) ok_mPF_read (Nat.le_of_ble_eq_true rfl) ?_
  refine go_aload_n dPF_read_0 rfl ?_
  refine go_getf dPF_read_1 qf_PF_26 hA.1 rfl ?_
  refine go_virtX dPF_read_4 ok_mReading_run im_mReading_run se_mReading_run qm_PF_222 hA.2.2.2.1.1 (a_Reading_run (hS.le (by omega)) hf20 hA.2.2.2.1) (fun hx1 d1 q1 => ?_) (hnp := np_mReading_run)
  obtain ⟨⟨S9, hR9, e9⟩, s9⟩ := q1
  have hA9 := hA.rea hR9 s9
  refine go_aload_n dPF_read_7 rfl ?_
  refine go_getf dPF_read_8 qf_PF_26 hA9.1 rfl ?_
  refine go_getf dPF_read_11 qf_PF_224 hA9.2.2.2.1.1 rfl ?_
  refine go_if_eq (tgt := 27) dPF_read_14 (fun c2 => ?_) (fun c2 => ?_)
  · refine go_iconst (v := -1) dPF_read_27 (by decide) ?_
    refine go_aload_n dPF_read_28 rfl ?_
    refine go_getf dPF_read_29 qf_PF_26 hA9.1 rfl ?_
    refine go_getf dPF_read_32 qf_PF_230 hA9.2.2.2.1.1 rfl ?_
    refine go_isub dPF_read_35 ?_
    refine go_iret dPF_read_36 rfl rfl ?_ (Nat.le_of_ble_eq_true rfl) (Nat.le_of_ble_eq_true rfl)
    refine ⟨S9, e9, ?_, hA9, s9.sub (by omega) (by omega), rfl⟩
    by_cases e : (rdAll α.2.2.1 α.2.2.2).1 = 0
    · rw [rdV, if_pos e]; exact absurd ((e9.2.2 e).1.symm.trans c2) (by decide)
    · rw [rdV, if_neg e]; exact congrArg (fun y => Sum.inl (some (Value.int (-1 - y)))) (e9.2.1 e).1
  · refine go_aload_n dPF_read_17 rfl ?_
    refine go_getf dPF_read_18 qf_PF_26 hA9.1 rfl ?_
    refine go_getf dPF_read_21 qf_PF_227 hA9.2.2.2.1.1 rfl ?_
    refine go_goto (tgt := 36) dPF_read_24 ?_
    refine go_iret dPF_read_36 rfl rfl ?_ (Nat.le_of_ble_eq_true rfl) (Nat.le_of_ble_eq_true rfl)
    refine ⟨S9, e9, ?_, hA9, s9.sub (by omega) (by omega), rfl⟩
    by_cases e : (rdAll α.2.2.1 α.2.2.2).1 = 0
    · rw [rdV, if_pos e]; exact congrArg (fun y => Sum.inl (some (Value.int y))) (e9.2.2 e).2.2.1
    · rw [rdV, if_neg e]; exact absurd (e9.2.1 e).2 c2
set_option maxHeartbeats 4000000 in
theorem o_at {E : pmEv} {h : pmH} {x : Nat} {α : aPF} (hA : PFA h x α) {a1 a2 a3 : Int32} (hS : SA E h x) : Call E mPF_at [.ref x, .int a1, .int a2, .int a3] h none 4 24 (RetF x h (atF α a1 a2 a3)) := by
  obtain ⟨Rw, ow, hW⟩ := hA.2.2.1
  have hw15 := hA.2.2.2.2.1
  have hf20 := hA.2.2.2.2.2
  have ho := hA.2.1.2.2.2.2.2
  have hb := ho.b
  have hkk := ho.k
  have hwh := ho.w
  have hc64 := hA.2.1.2.1.2.2
  have hx6 := hA.2.1.2.2.2.1.2.2
  refine call_of (L := [some (.ref x), some (.int a1), some (.int a2), some (.int a3)]) ok_mPF_at (Nat.le_of_ble_eq_true rfl) ?_
  refine go_aload_n dPF_at_0 rfl ?_
  refine go_virtN dPF_at_1 ok_mPF_needReading im_mPF_needReading se_mPF_needReading qm_PF_233 hA.1 (c_PF_needReading hA) (fun c1 => by
      exact retF (by rw [atF, if_pos (Decidable.not_not.mp c1)]) hA (Sm.refl _ _ _)) (fun c1 => ?_) (hnp := np_mPF_needReading)
  refine go_aload_n dPF_at_4 rfl ?_
  refine go_getf dPF_at_5 qf_PF_26 hA.1 rfl ?_
  refine go_getf dPF_at_8 qf_PF_236 hA.2.2.2.1.1 rfl ?_
  refine go_iload_n dPF_at_11 rfl ?_
  refine go_iload_n dPF_at_12 rfl ?_
  refine go_iload_n dPF_at_13 rfl ?_
  refine go_virtP dPF_at_14 ok_mPicture_has im_mPicture_has se_mPicture_has qm_PF_96 hA.2.2.2.1.2.2.1.1 (a_Picture_has hA.2.2.2.1.2.2.1) ?_ (hnp := np_mPicture_has)
  refine go_ifne_b (tgt := 30) dPF_at_17 (fun c2 => ?_) (fun c2 => ?_)
  · have ho2 := hA.2.2.2.1.2.2.1.2.2.2.2.2
    obtain ⟨x5, y5, u5, rfl, rfl, rfl, hx5, hy5, hu5⟩ := pHas_ex c2
    have hwh2 := ho2.w
    have hch := chN_le α.2.2.2.1.2.1.2.2.2
    refine go_aload_n dPF_at_30 rfl ?_
    refine go_getf dPF_at_31 qf_PF_26 hA.1 rfl ?_
    refine go_getf dPF_at_34 qf_PF_236 hA.2.2.2.1.1 rfl ?_
    refine go_iload_n dPF_at_37 rfl ?_
    refine go_iload_n dPF_at_38 rfl ?_
    refine go_iload_n dPF_at_39 rfl ?_
    refine go_virtP dPF_at_40 ok_mPicture_sample im_mPicture_sample se_mPicture_sample qm_PF_110 hA.2.2.2.1.2.2.1.1 (a_Picture_sample (x := x5) (y := y5) (u := u5) hx5 hy5 hu5 hA.2.2.2.1.2.2.1) ?_ (hnp := np_mPicture_sample)
    refine go_iret dPF_at_43 rfl rfl ?_ (Nat.le_of_ble_eq_true rfl) (Nat.le_of_ble_eq_true rfl)
    exact retF (by rw [atF, if_neg c1, if_neg (fun q => q c2), poN, nI_clamp (n := x5) (by omega), nI_clamp (n := y5) (by omega), nI_clamp (n := u5) (by omega)]) hA (Sm.refl _ _ _)
  · refine go_throw (x := 2) dPF_at_20 dPF_at_23 dPF_at_24 dPF_at_26 dPF_at_29 rfl qx_PF_100 qt_PF_237 ?_ rfl
    exact retF (by rw [atF, if_neg c1, if_pos c2]) hA (Sm.refl _ _ _)
set_option maxHeartbeats 4000000 in
theorem o_found {E : pmEv} {h : pmH} {x : Nat} {α : aPF} (hA : PFA h x α) {a1 : Int32} (hS : SA E h x) : Call E mPF_found [.ref x, .int a1] h none 4 24 (RetF x h (foF α a1)) := by
  obtain ⟨Rw, ow, hW⟩ := hA.2.2.1
  have hw15 := hA.2.2.2.2.1
  have hf20 := hA.2.2.2.2.2
  have ho := hA.2.1.2.2.2.2.2
  have hb := ho.b
  have hkk := ho.k
  have hwh := ho.w
  have hc64 := hA.2.1.2.1.2.2
  have hx6 := hA.2.1.2.2.2.1.2.2
  refine call_of (L := [some (.ref x), some (.int a1)]) ok_mPF_found (Nat.le_of_ble_eq_true rfl) ?_
  refine go_aload_n dPF_found_0 rfl ?_
  refine go_virtN dPF_found_1 ok_mPF_needReading im_mPF_needReading se_mPF_needReading qm_PF_233 hA.1 (c_PF_needReading hA) (fun c1 => by
      exact retF (by rw [foF, if_pos (Decidable.not_not.mp c1)]) hA (Sm.refl _ _ _)) (fun c1 => ?_) (hnp := np_mPF_needReading)
  refine go_iload_n dPF_found_4 rfl ?_
  refine go_by (0) (fun s2 => ?_) (fun s2 => ?_)
  · refine go_tableIn (tgt := 60) (off := 55) dPF_found_5 (by decide) (by decide) (by decide) ?_
    refine go_aload_n dPF_found_60 rfl ?_
    refine go_getf dPF_found_61 qf_PF_26 hA.1 rfl ?_
    refine go_getf dPF_found_64 qf_PF_236 hA.2.2.2.1.1 rfl ?_
    refine go_getf dPF_found_67 qf_PF_239 hA.2.2.2.1.2.2.1.1 rfl ?_
    refine go_iret dPF_found_70 rfl rfl ?_ (Nat.le_of_ble_eq_true rfl) (Nat.le_of_ble_eq_true rfl)
    exact retF (by rw [foF, if_neg c1, foV, if_pos s2]) hA (Sm.refl _ _ _)
  refine go_by (1) (fun s3 => ?_) (fun s3 => ?_)
  · refine go_tableIn (tgt := 71) (off := 66) dPF_found_5 (by decide) (by decide) (by decide) ?_
    refine go_aload_n dPF_found_71 rfl ?_
    refine go_getf dPF_found_72 qf_PF_26 hA.1 rfl ?_
    refine go_getf dPF_found_75 qf_PF_236 hA.2.2.2.1.1 rfl ?_
    refine go_getf dPF_found_78 qf_PF_242 hA.2.2.2.1.2.2.1.1 rfl ?_
    refine go_iret dPF_found_81 rfl rfl ?_ (Nat.le_of_ble_eq_true rfl) (Nat.le_of_ble_eq_true rfl)
    exact retF (by rw [foF, if_neg c1, foV, if_neg s2, if_pos s3]) hA (Sm.refl _ _ _)
  refine go_by (2) (fun s4 => ?_) (fun s4 => ?_)
  · refine go_tableIn (tgt := 82) (off := 77) dPF_found_5 (by decide) (by decide) (by decide) ?_
    refine go_aload_n dPF_found_82 rfl ?_
    refine go_getf dPF_found_83 qf_PF_26 hA.1 rfl ?_
    refine go_getf dPF_found_86 qf_PF_236 hA.2.2.2.1.1 rfl ?_
    refine go_getf dPF_found_89 qf_PF_75 hA.2.2.2.1.2.2.1.1 rfl ?_
    refine go_iret dPF_found_92 rfl rfl ?_ (Nat.le_of_ble_eq_true rfl) (Nat.le_of_ble_eq_true rfl)
    exact retF (by rw [foF, if_neg c1, foV, if_neg s2, if_neg s3, if_pos s4]) hA (Sm.refl _ _ _)
  refine go_by (3) (fun s5 => ?_) (fun s5 => ?_)
  · refine go_tableIn (tgt := 93) (off := 88) dPF_found_5 (by decide) (by decide) (by decide) ?_
    refine go_aload_n dPF_found_93 rfl ?_
    refine go_getf dPF_found_94 qf_PF_26 hA.1 rfl ?_
    refine go_getf dPF_found_97 qf_PF_236 hA.2.2.2.1.1 rfl ?_
    refine go_getf dPF_found_100 qf_PF_51 hA.2.2.2.1.2.2.1.1 rfl ?_
    refine go_iret dPF_found_103 rfl rfl ?_ (Nat.le_of_ble_eq_true rfl) (Nat.le_of_ble_eq_true rfl)
    exact retF (by rw [foF, if_neg c1, foV, if_neg s2, if_neg s3, if_neg s4, if_pos s5]) hA (Sm.refl _ _ _)
  refine go_by (4) (fun s6 => ?_) (fun s6 => ?_)
  · refine go_tableIn (tgt := 104) (off := 99) dPF_found_5 (by decide) (by decide) (by decide) ?_
    refine go_aload_n dPF_found_104 rfl ?_
    refine go_getf dPF_found_105 qf_PF_26 hA.1 rfl ?_
    refine go_getf dPF_found_108 qf_PF_236 hA.2.2.2.1.1 rfl ?_
    refine go_getf dPF_found_111 qf_PF_66 hA.2.2.2.1.2.2.1.1 rfl ?_
    refine go_getf dPF_found_114 qf_PF_70 hA.2.2.2.1.2.2.1.2.1.1 rfl ?_
    refine go_iret dPF_found_117 rfl rfl ?_ (Nat.le_of_ble_eq_true rfl) (Nat.le_of_ble_eq_true rfl)
    exact retF (by rw [foF, if_neg c1, foV, if_neg s2, if_neg s3, if_neg s4, if_neg s5, if_pos s6]) hA (Sm.refl _ _ _)
  refine go_by (5) (fun s7 => ?_) (fun s7 => ?_)
  · refine go_tableIn (tgt := 118) (off := 113) dPF_found_5 (by decide) (by decide) (by decide) ?_
    refine go_aload_n dPF_found_118 rfl ?_
    refine go_getf dPF_found_119 qf_PF_26 hA.1 rfl ?_
    refine go_getf dPF_found_122 qf_PF_236 hA.2.2.2.1.1 rfl ?_
    refine go_getf dPF_found_125 qf_PF_129 hA.2.2.2.1.2.2.1.1 rfl ?_
    refine go_iconst (v := 0) dPF_found_128 (by decide) ?_
    refine go_virtP dPF_found_129 ok_mTags_value im_mTags_value se_mTags_value qm_PF_133 hA.2.2.2.1.2.2.1.2.2.1.1 (a_Tags_value (k := 0) (by omega) hA.2.2.2.1.2.2.1.2.2.1) ?_ (hnp := np_mTags_value)
    refine go_iret dPF_found_132 rfl rfl ?_ (Nat.le_of_ble_eq_true rfl) (Nat.le_of_ble_eq_true rfl)
    exact retF (by rw [foF, if_neg c1, foV, if_neg s2, if_neg s3, if_neg s4, if_neg s5, if_neg s6, if_pos s7]) hA (Sm.refl _ _ _)
  refine go_by (6) (fun s8 => ?_) (fun s8 => ?_)
  · refine go_tableIn (tgt := 133) (off := 128) dPF_found_5 (by decide) (by decide) (by decide) ?_
    refine go_aload_n dPF_found_133 rfl ?_
    refine go_getf dPF_found_134 qf_PF_26 hA.1 rfl ?_
    refine go_getf dPF_found_137 qf_PF_236 hA.2.2.2.1.1 rfl ?_
    refine go_getf dPF_found_140 qf_PF_129 hA.2.2.2.1.2.2.1.1 rfl ?_
    refine go_iconst (v := 1) dPF_found_143 (by decide) ?_
    refine go_virtP dPF_found_144 ok_mTags_value im_mTags_value se_mTags_value qm_PF_133 hA.2.2.2.1.2.2.1.2.2.1.1 (a_Tags_value (k := 1) (by omega) hA.2.2.2.1.2.2.1.2.2.1) ?_ (hnp := np_mTags_value)
    refine go_iret dPF_found_147 rfl rfl ?_ (Nat.le_of_ble_eq_true rfl) (Nat.le_of_ble_eq_true rfl)
    exact retF (by rw [foF, if_neg c1, foV, if_neg s2, if_neg s3, if_neg s4, if_neg s5, if_neg s6, if_neg s7, if_pos s8]) hA (Sm.refl _ _ _)
  refine go_by (7) (fun s9 => ?_) (fun s9 => ?_)
  · refine go_tableIn (tgt := 148) (off := 143) dPF_found_5 (by decide) (by decide) (by decide) ?_
    refine go_aload_n dPF_found_148 rfl ?_
    refine go_getf dPF_found_149 qf_PF_26 hA.1 rfl ?_
    refine go_getf dPF_found_152 qf_PF_236 hA.2.2.2.1.1 rfl ?_
    refine go_getf dPF_found_155 qf_PF_129 hA.2.2.2.1.2.2.1.1 rfl ?_
    refine go_iconst (v := 2) dPF_found_158 (by decide) ?_
    refine go_virtP dPF_found_159 ok_mTags_value im_mTags_value se_mTags_value qm_PF_133 hA.2.2.2.1.2.2.1.2.2.1.1 (a_Tags_value (k := 2) (by omega) hA.2.2.2.1.2.2.1.2.2.1) ?_ (hnp := np_mTags_value)
    refine go_iret dPF_found_162 rfl rfl ?_ (Nat.le_of_ble_eq_true rfl) (Nat.le_of_ble_eq_true rfl)
    exact retF (by rw [foF, if_neg c1, foV, if_neg s2, if_neg s3, if_neg s4, if_neg s5, if_neg s6, if_neg s7, if_neg s8, if_pos s9]) hA (Sm.refl _ _ _)
  refine go_by (8) (fun s10 => ?_) (fun s10 => ?_)
  · refine go_tableIn (tgt := 163) (off := 158) dPF_found_5 (by decide) (by decide) (by decide) ?_
    refine go_aload_n dPF_found_163 rfl ?_
    refine go_getf dPF_found_164 qf_PF_26 hA.1 rfl ?_
    refine go_getf dPF_found_167 qf_PF_236 hA.2.2.2.1.1 rfl ?_
    refine go_getf dPF_found_170 qf_PF_147 hA.2.2.2.1.2.2.1.1 rfl ?_
    refine go_getf dPF_found_173 qf_PF_162 hA.2.2.2.1.2.2.1.2.2.2.1.1 rfl ?_
    refine go_iret dPF_found_176 rfl rfl ?_ (Nat.le_of_ble_eq_true rfl) (Nat.le_of_ble_eq_true rfl)
    exact retF (by rw [foF, if_neg c1, foV, if_neg s2, if_neg s3, if_neg s4, if_neg s5, if_neg s6, if_neg s7, if_neg s8, if_neg s9, if_pos s10]) hA (Sm.refl _ _ _)
  refine go_by (9) (fun s11 => ?_) (fun s11 => ?_)
  · refine go_tableIn (tgt := 177) (off := 172) dPF_found_5 (by decide) (by decide) (by decide) ?_
    refine go_aload_n dPF_found_177 rfl ?_
    refine go_getf dPF_found_178 qf_PF_26 hA.1 rfl ?_
    refine go_getf dPF_found_181 qf_PF_245 hA.2.2.2.1.1 rfl ?_
    refine go_iret dPF_found_184 rfl rfl ?_ (Nat.le_of_ble_eq_true rfl) (Nat.le_of_ble_eq_true rfl)
    exact retF (by rw [foF, if_neg c1, foV, if_neg s2, if_neg s3, if_neg s4, if_neg s5, if_neg s6, if_neg s7, if_neg s8, if_neg s9, if_neg s10, if_pos s11]) hA (Sm.refl _ _ _)
  refine go_tableOut (tgt := 185) dPF_found_5 (by have a0 := lv_neT s2 (a := 0) (by decide); have a1 := lv_neT s3 (a := 1) (by decide); have a2 := lv_neT s4 (a := 2) (by decide); have a3 := lv_neT s5 (a := 3) (by decide); have a4 := lv_neT s6 (a := 4) (by decide); have a5 := lv_neT s7 (a := 5) (by decide); have a6 := lv_neT s8 (a := 6) (by decide); have a7 := lv_neT s9 (a := 7) (by decide); have a8 := lv_neT s10 (a := 8) (by decide); have a9 := lv_neT s11 (a := 9) (by decide); omega) ?_
  refine go_iconst (v := -1) dPF_found_185 (by decide) ?_
  refine go_iret dPF_found_186 rfl rfl ?_ (Nat.le_of_ble_eq_true rfl) (Nat.le_of_ble_eq_true rfl)
  exact retF (by rw [foF, if_neg c1, foV, if_neg s2, if_neg s3, if_neg s4, if_neg s5, if_neg s6, if_neg s7, if_neg s8, if_neg s9, if_neg s10, if_neg s11]) hA (Sm.refl _ _ _)
set_option maxHeartbeats 4000000 in
theorem o_entry {E : pmEv} {h : pmH} {x : Nat} {α : aPF} (hA : PFA h x α) {a1 a2 : Int32} (hS : SA E h x) : Call E mPF_entry [.ref x, .int a1, .int a2] h none 4 24 (RetF x h (eyF α a1 a2)) := by
  obtain ⟨Rw, ow, hW⟩ := hA.2.2.1
  have hw15 := hA.2.2.2.2.1
  have hf20 := hA.2.2.2.2.2
  have ho := hA.2.1.2.2.2.2.2
  have hb := ho.b
  have hkk := ho.k
  have hwh := ho.w
  have hc64 := hA.2.1.2.1.2.2
  have hx6 := hA.2.1.2.2.2.1.2.2
  refine call_of (L := [some (.ref x), some (.int a1), some (.int a2)]) ok_mPF_entry (Nat.le_of_ble_eq_true rfl) ?_
  refine go_aload_n dPF_entry_0 rfl ?_
  refine go_virtN dPF_entry_1 ok_mPF_needReading im_mPF_needReading se_mPF_needReading qm_PF_233 hA.1 (c_PF_needReading hA) (fun c1 => by
      exact retF (by rw [eyF, if_pos (Decidable.not_not.mp c1)]) hA (Sm.refl _ _ _)) (fun c1 => ?_) (hnp := np_mPF_needReading)
  refine go_aload_n dPF_entry_4 rfl ?_
  refine go_getf dPF_entry_5 qf_PF_26 hA.1 rfl ?_
  refine go_getf dPF_entry_8 qf_PF_236 hA.2.2.2.1.1 rfl ?_
  refine go_getf dPF_entry_11 qf_PF_66 hA.2.2.2.1.2.2.1.1 rfl ?_
  refine go_iload_n dPF_entry_14 rfl ?_
  refine go_virtP dPF_entry_15 ok_mPalette_has im_mPalette_has se_mPalette_has qm_PF_248 hA.2.2.2.1.2.2.1.2.1.1 (a_Palette_has hA.2.2.2.1.2.2.1.2.1) ?_ (hnp := np_mPalette_has)
  refine go_ifne_b (tgt := 31) dPF_entry_18 (fun c2 => ?_) (fun c2 => ?_)
  · refine go_iload_n dPF_entry_31 rfl ?_
    refine go_if_lt (tgt := 40) dPF_entry_32 (fun c3 => ?_) (fun c3 => ?_)
    · refine go_throw (x := 1) dPF_entry_40 dPF_entry_43 dPF_entry_44 dPF_entry_46 dPF_entry_49 rfl qx_PF_36 qt_PF_251 ?_ rfl
      exact retF (by rw [eyF, if_neg c1, if_neg (fun q => q c2), if_pos (fun q => absurd q.1 (Int32.not_le.mpr c3))]) hA (Sm.refl _ _ _)
    · refine go_iload_n dPF_entry_35 rfl ?_
      refine go_iconst (v := 4) dPF_entry_36 (by decide) ?_
      refine go_icmp_lt (tgt := 50) dPF_entry_37 (fun c4 => ?_) (fun c4 => ?_)
      · have c5 : 0 ≤ a2 ∧ a2 < 4 := ⟨Int32.not_lt.mp c3, c4⟩
        have hc2 := hA.2.2.2.1.2.2.1.2.1.2.2
        obtain ⟨k5, hk5, rfl⟩ := has_ex (by omega) c2
        obtain ⟨w5, hw5, rfl⟩ := has_ex (c := 4) (by omega) c5
        refine go_aload_n dPF_entry_50 rfl ?_
        refine go_getf dPF_entry_51 qf_PF_26 hA.1 rfl ?_
        refine go_getf dPF_entry_54 qf_PF_236 hA.2.2.2.1.1 rfl ?_
        refine go_getf dPF_entry_57 qf_PF_66 hA.2.2.2.1.2.2.1.1 rfl ?_
        refine go_iload_n dPF_entry_60 rfl ?_
        refine go_iload_n dPF_entry_61 rfl ?_
        refine go_virtP dPF_entry_62 ok_mPalette_part im_mPalette_part se_mPalette_part qm_PF_253 hA.2.2.2.1.2.2.1.2.1.1 (a_Palette_part hk5 hw5 hA.2.2.2.1.2.2.1.2.1) ?_ (hnp := np_mPalette_part)
        refine go_iret dPF_entry_65 rfl rfl ?_ (Nat.le_of_ble_eq_true rfl) (Nat.le_of_ble_eq_true rfl)
        exact retF (by rw [eyF, if_neg c1, if_neg (fun q => q c2), if_neg (fun q => q c5), nI_clamp (n := k5) (by omega), nI_clamp (n := w5) (by omega)]) hA (Sm.refl _ _ _)
      · refine go_throw (x := 1) dPF_entry_40 dPF_entry_43 dPF_entry_44 dPF_entry_46 dPF_entry_49 rfl qx_PF_36 qt_PF_251 ?_ rfl
        exact retF (by rw [eyF, if_neg c1, if_neg (fun q => q c2), if_pos (fun q => c4 q.2)]) hA (Sm.refl _ _ _)
  · refine go_throw (x := 2) dPF_entry_21 dPF_entry_24 dPF_entry_25 dPF_entry_27 dPF_entry_30 rfl qx_PF_100 qt_PF_249 ?_ rfl
    exact retF (by rw [eyF, if_neg c1, if_pos c2]) hA (Sm.refl _ _ _)
set_option maxHeartbeats 4000000 in
theorem o_unknown {E : pmEv} {h : pmH} {x : Nat} {α : aPF} (hA : PFA h x α) {a1 a2 : Int32} (hS : SA E h x) : Call E mPF_unknown [.ref x, .int a1, .int a2] h none 4 24 (RetF x h (unF α a1 a2)) := by
  obtain ⟨Rw, ow, hW⟩ := hA.2.2.1
  have hw15 := hA.2.2.2.2.1
  have hf20 := hA.2.2.2.2.2
  have ho := hA.2.1.2.2.2.2.2
  have hb := ho.b
  have hkk := ho.k
  have hwh := ho.w
  have hc64 := hA.2.1.2.1.2.2
  have hx6 := hA.2.1.2.2.2.1.2.2
  refine call_of (L := [some (.ref x), some (.int a1), some (.int a2), none]) ok_mPF_unknown (Nat.le_of_ble_eq_true rfl) ?_
  refine go_aload_n dPF_unknown_0 rfl ?_
  refine go_virtN dPF_unknown_1 ok_mPF_needReading im_mPF_needReading se_mPF_needReading qm_PF_233 hA.1 (c_PF_needReading hA) (fun c1 => by
      exact retF (by rw [unF, if_pos (Decidable.not_not.mp c1)]) hA (Sm.refl _ _ _)) (fun c1 => ?_) (hnp := np_mPF_needReading)
  refine go_aload_n dPF_unknown_4 rfl ?_
  refine go_getf dPF_unknown_5 qf_PF_26 hA.1 rfl ?_
  refine go_getf dPF_unknown_8 qf_PF_236 hA.2.2.2.1.1 rfl ?_
  refine go_getf dPF_unknown_11 qf_PF_147 hA.2.2.2.1.2.2.1.1 rfl ?_
  refine go_astore_n dPF_unknown_14 ?_
  refine go_aload_n dPF_unknown_15 rfl ?_
  refine go_iload_n dPF_unknown_16 rfl ?_
  refine go_virtP dPF_unknown_17 ok_mExtras_has im_mExtras_has se_mExtras_has qm_PF_163 hA.2.2.2.1.2.2.1.2.2.2.1.1 (a_Extras_has hA.2.2.2.1.2.2.1.2.2.2.1) ?_ (hnp := np_mExtras_has)
  refine go_ifne_b (tgt := 34) dPF_unknown_20 (fun c2 => ?_) (fun c2 => ?_)
  · have hx2 := hA.2.2.2.1.2.2.1.2.2.2.1.2.2
    obtain ⟨k5, hk5, rfl⟩ := has_ex (by omega) c2
    have hz5 := ex_sz hA.2.2.2.1.2.2.1.2.2.2.1 k5 hk5
    refine go_iload_n dPF_unknown_34 rfl ?_
    refine go_iconst (v := -1) dPF_unknown_35 (by decide) ?_
    refine go_icmp_lt (tgt := 48) dPF_unknown_36 (fun c3 => ?_) (fun c3 => ?_)
    · refine go_throwW (x := 2) dPF_unknown_48 dPF_unknown_51 dPF_unknown_52 dPF_unknown_55 dPF_unknown_58 rfl qx_PF_100 qt_PF_258 ?_ rfl
      exact retF (by rw [unF, if_neg c1, if_neg (fun q => q c2), nI_clamp (n := k5) (by omega), if_pos (Or.inl c3)]) hA (Sm.refl _ _ _)
    · refine go_iload_n dPF_unknown_39 rfl ?_
      refine go_aload_n dPF_unknown_40 rfl ?_
      refine go_iload_n dPF_unknown_41 rfl ?_
      refine go_virtP dPF_unknown_42 ok_mExtras_lengthOf im_mExtras_lengthOf se_mExtras_lengthOf qm_PF_170 hA.2.2.2.1.2.2.1.2.2.2.1.1 (a_Extras_lengthOf hk5 hA.2.2.2.1.2.2.1.2.2.2.1) ?_ (hnp := np_mExtras_lengthOf)
      refine go_icmp_lt (tgt := 59) dPF_unknown_45 (fun c4 => ?_) (fun c4 => ?_)
      · refine go_iload_n dPF_unknown_59 rfl ?_
        refine go_iconst (v := -1) dPF_unknown_60 (by decide) ?_
        refine go_icmp_ne (tgt := 72) dPF_unknown_61 (fun c5 => ?_) (fun c5 => ?_)
        · obtain ⟨i5, hi5, rfl⟩ := has_ex (by omega) ⟨ge_m1 c3 c5, c4⟩
          refine go_aload_n dPF_unknown_72 rfl ?_
          refine go_iload_n dPF_unknown_73 rfl ?_
          refine go_iload_n dPF_unknown_74 rfl ?_
          refine go_virtP dPF_unknown_75 ok_mExtras_value im_mExtras_value se_mExtras_value qm_PF_263 hA.2.2.2.1.2.2.1.2.2.2.1.1 (a_Extras_value hk5 hi5 hA.2.2.2.1.2.2.1.2.2.2.1) ?_ (hnp := np_mExtras_value)
          refine go_iret dPF_unknown_78 rfl rfl ?_ (Nat.le_of_ble_eq_true rfl) (Nat.le_of_ble_eq_true rfl)
          exact retF (by rw [unF, if_neg c1, if_neg (fun q => q c2), nI_clamp (n := k5) (by omega), if_neg (fun q => q.elim c3 (fun q => q c4)), if_neg c5, nI_clamp (n := i5) (by omega)]) hA (Sm.refl _ _ _)
        · refine go_aload_n dPF_unknown_64 rfl ?_
          refine go_iload_n dPF_unknown_65 rfl ?_
          refine go_virtP dPF_unknown_66 ok_mExtras_lettersOf im_mExtras_lettersOf se_mExtras_lettersOf qm_PF_260 hA.2.2.2.1.2.2.1.2.2.2.1.1 (a_Extras_lettersOf hk5 hA.2.2.2.1.2.2.1.2.2.2.1) ?_ (hnp := np_mExtras_lettersOf)
          refine go_goto (tgt := 78) dPF_unknown_69 ?_
          refine go_iret dPF_unknown_78 rfl rfl ?_ (Nat.le_of_ble_eq_true rfl) (Nat.le_of_ble_eq_true rfl)
          exact retF (by rw [unF, if_neg c1, if_neg (fun q => q c2), nI_clamp (n := k5) (by omega), if_neg (fun q => q.elim c3 (fun q => q c4)), if_pos c5]) hA (Sm.refl _ _ _)
      · refine go_throwW (x := 2) dPF_unknown_48 dPF_unknown_51 dPF_unknown_52 dPF_unknown_55 dPF_unknown_58 rfl qx_PF_100 qt_PF_258 ?_ rfl
        exact retF (by rw [unF, if_neg c1, if_neg (fun q => q c2), nI_clamp (n := k5) (by omega), if_pos (Or.inr c4)]) hA (Sm.refl _ _ _)
  · refine go_throwW (x := 2) dPF_unknown_23 dPF_unknown_26 dPF_unknown_27 dPF_unknown_30 dPF_unknown_33 rfl qx_PF_100 qt_PF_256 ?_ rfl
    exact retF (by rw [unF, if_neg c1, if_pos c2]) hA (Sm.refl _ _ _)
set_option maxHeartbeats 4000000 in
theorem o_take {E : pmEv} {h : pmH} {x : Nat} {α : aPF} (hA : PFA h x α) (hS : SA E h x) : Call E mPF_take [.ref x] h none 4 24 (RetF x h (taF α)) := by
  obtain ⟨Rw, ow, hW⟩ := hA.2.2.1
  have hw15 := hA.2.2.2.2.1
  have hf20 := hA.2.2.2.2.2
  have ho := hA.2.1.2.2.2.2.2
  have hb := ho.b
  have hkk := ho.k
  have hwh := ho.w
  have hc64 := hA.2.1.2.1.2.2
  have hx6 := hA.2.1.2.2.2.1.2.2
  refine call_of (L := [some (.ref x)]) ok_mPF_take (Nat.le_of_ble_eq_true rfl) ?_
  refine go_aload_n dPF_take_0 rfl ?_
  refine go_virtN dPF_take_1 ok_mPF_needReading im_mPF_needReading se_mPF_needReading qm_PF_233 hA.1 (c_PF_needReading hA) (fun c1 => by
      exact retF (by rw [taF, if_pos (Decidable.not_not.mp c1)]) hA (Sm.refl _ _ _)) (fun c1 => ?_) (hnp := np_mPF_needReading)
  refine go_aload_n dPF_take_4 rfl ?_
  refine go_getf dPF_take_5 qf_PF_10 hA.1 rfl ?_
  refine go_aload_n dPF_take_8 rfl ?_
  refine go_getf dPF_take_9 qf_PF_26 hA.1 rfl ?_
  refine go_getf dPF_take_12 qf_PF_236 hA.2.2.2.1.1 rfl ?_
  refine go_virtX dPF_take_15 ok_mPicture_copyFrom im_mPicture_copyFrom se_mPicture_copyFrom qm_PF_265 hA.2.1.1 (a_Picture_copyFrom (by omega) hA.2.1 hA.2.2.2.1.2.2.1) (fun hx2 d2 q2 => ?_) (hnp := np_mPicture_copyFrom)
  refine go_vret dPF_take_18 rfl ?_ (Nat.le_of_ble_eq_true rfl) (Nat.le_of_ble_eq_true rfl)
  exact retF (by rw [taF, if_neg c1]) (hA.pic q2.1 q2.2) (q2.2.sub (by omega) (by omega))
set_option maxHeartbeats 4000000 in
theorem o_told {E : pmEv} {h : pmH} {x : Nat} {α : aPF} (hA : PFA h x α) {a1 : Int32} (hS : SA E h x) : Call E mPF_told [.ref x, .int a1] h none 4 24 (RetF x h (toF α a1)) := by
  obtain ⟨Rw, ow, hW⟩ := hA.2.2.1
  have hw15 := hA.2.2.2.2.1
  have hf20 := hA.2.2.2.2.2
  have ho := hA.2.1.2.2.2.2.2
  have hb := ho.b
  have hkk := ho.k
  have hwh := ho.w
  have hc64 := hA.2.1.2.1.2.2
  have hx6 := hA.2.1.2.2.2.1.2.2
  refine call_of (L := [some (.ref x), some (.int a1)]) ok_mPF_told (Nat.le_of_ble_eq_true rfl) ?_
  refine go_iload_n dPF_told_0 rfl ?_
  refine go_by (0) (fun s1 => ?_) (fun s1 => ?_)
  · refine go_tableIn (tgt := 44) (off := 43) dPF_told_1 (by decide) (by decide) (by decide) ?_
    refine go_aload_n dPF_told_44 rfl ?_
    refine go_getf dPF_told_45 qf_PF_26 hA.1 rfl ?_
    refine go_getf dPF_told_48 qf_PF_268 hA.2.2.2.1.1 rfl ?_
    refine go_iret dPF_told_51 rfl rfl ?_ (Nat.le_of_ble_eq_true rfl) (Nat.le_of_ble_eq_true rfl)
    exact retF (by rw [toF, toV, if_pos s1]) hA (Sm.refl _ _ _)
  refine go_by (1) (fun s2 => ?_) (fun s2 => ?_)
  · refine go_tableIn (tgt := 52) (off := 51) dPF_told_1 (by decide) (by decide) (by decide) ?_
    refine go_aload_n dPF_told_52 rfl ?_
    refine go_getf dPF_told_53 qf_PF_10 hA.1 rfl ?_
    refine go_getf dPF_told_56 qf_PF_47 hA.2.1.1 rfl ?_
    refine go_ifeq_b (tgt := 72) dPF_told_59 (fun c3 => ?_) (fun c3 => ?_)
    · refine go_iconst (v := -1) dPF_told_72 (by decide) ?_
      refine go_iret dPF_told_73 rfl rfl ?_ (Nat.le_of_ble_eq_true rfl) (Nat.le_of_ble_eq_true rfl)
      exact retF (by rw [toF, toV, if_neg s1, if_pos s2, if_neg c3]) hA (Sm.refl _ _ _)
    · refine go_aload_n dPF_told_62 rfl ?_
      refine go_getf dPF_told_63 qf_PF_10 hA.1 rfl ?_
      refine go_getf dPF_told_66 qf_PF_51 hA.2.1.1 rfl ?_
      refine go_goto (tgt := 73) dPF_told_69 ?_
      refine go_iret dPF_told_73 rfl rfl ?_ (Nat.le_of_ble_eq_true rfl) (Nat.le_of_ble_eq_true rfl)
      exact retF (by rw [toF, toV, if_neg s1, if_pos s2, if_pos c3]) hA (Sm.refl _ _ _)
  refine go_by (2) (fun s3 => ?_) (fun s3 => ?_)
  · refine go_tableIn (tgt := 74) (off := 73) dPF_told_1 (by decide) (by decide) (by decide) ?_
    refine go_aload_n dPF_told_74 rfl ?_
    refine go_getf dPF_told_75 qf_PF_10 hA.1 rfl ?_
    refine go_getf dPF_told_78 qf_PF_47 hA.2.1.1 rfl ?_
    refine go_ifeq_b (tgt := 94) dPF_told_81 (fun c4 => ?_) (fun c4 => ?_)
    · refine go_iconst (v := -1) dPF_told_94 (by decide) ?_
      refine go_iret dPF_told_95 rfl rfl ?_ (Nat.le_of_ble_eq_true rfl) (Nat.le_of_ble_eq_true rfl)
      exact retF (by rw [toF, toV, if_neg s1, if_neg s2, if_pos s3, if_neg c4]) hA (Sm.refl _ _ _)
    · refine go_aload_n dPF_told_84 rfl ?_
      refine go_getf dPF_told_85 qf_PF_10 hA.1 rfl ?_
      refine go_getf dPF_told_88 qf_PF_75 hA.2.1.1 rfl ?_
      refine go_goto (tgt := 95) dPF_told_91 ?_
      refine go_iret dPF_told_95 rfl rfl ?_ (Nat.le_of_ble_eq_true rfl) (Nat.le_of_ble_eq_true rfl)
      exact retF (by rw [toF, toV, if_neg s1, if_neg s2, if_pos s3, if_pos c4]) hA (Sm.refl _ _ _)
  refine go_by (3) (fun s4 => ?_) (fun s4 => ?_)
  · refine go_tableIn (tgt := 96) (off := 95) dPF_told_1 (by decide) (by decide) (by decide) ?_
    refine go_aload_n dPF_told_96 rfl ?_
    refine go_getf dPF_told_97 qf_PF_10 hA.1 rfl ?_
    refine go_getf dPF_told_100 qf_PF_147 hA.2.1.1 rfl ?_
    refine go_getf dPF_told_103 qf_PF_162 hA.2.1.2.2.2.1.1 rfl ?_
    refine go_iret dPF_told_106 rfl rfl ?_ (Nat.le_of_ble_eq_true rfl) (Nat.le_of_ble_eq_true rfl)
    exact retF (by rw [toF, toV, if_neg s1, if_neg s2, if_neg s3, if_pos s4]) hA (Sm.refl _ _ _)
  refine go_by (4) (fun s5 => ?_) (fun s5 => ?_)
  · refine go_tableIn (tgt := 107) (off := 106) dPF_told_1 (by decide) (by decide) (by decide) ?_
    refine go_aload_n dPF_told_107 rfl ?_
    refine go_getf dPF_told_108 qf_PF_19 hA.1 rfl ?_
    refine go_getf dPF_told_111 qf_PF_189 hW.1 rfl ?_
    refine go_getf dPF_told_114 qf_PF_193 hW.2.1.1 rfl ?_
    rw [Nat.min_eq_right hw15]
    refine go_iret dPF_told_117 rfl rfl ?_ (Nat.le_of_ble_eq_true rfl) (Nat.le_of_ble_eq_true rfl)
    exact retF (by rw [toF, toV, if_neg s1, if_neg s2, if_neg s3, if_neg s4, if_pos s5]) hA (Sm.refl _ _ _)
  refine go_by (5) (fun s6 => ?_) (fun s6 => ?_)
  · refine go_tableIn (tgt := 118) (off := 117) dPF_told_1 (by decide) (by decide) (by decide) ?_
    refine go_aload_n dPF_told_118 rfl ?_
    refine go_getf dPF_told_119 qf_PF_26 hA.1 rfl ?_
    refine go_getf dPF_told_122 qf_PF_203 hA.2.2.2.1.1 rfl ?_
    refine go_getf dPF_told_125 qf_PF_193 hA.2.2.2.1.2.1.1 rfl ?_
    rw [Nat.min_eq_right hf20]
    refine go_iret dPF_told_128 rfl rfl ?_ (Nat.le_of_ble_eq_true rfl) (Nat.le_of_ble_eq_true rfl)
    exact retF (by rw [toF, toV, if_neg s1, if_neg s2, if_neg s3, if_neg s4, if_neg s5, if_pos s6]) hA (Sm.refl _ _ _)
  refine go_by (6) (fun s7 => ?_) (fun s7 => ?_)
  · refine go_tableIn (tgt := 129) (off := 128) dPF_told_1 (by decide) (by decide) (by decide) ?_
    refine go_aload_n dPF_told_129 rfl ?_
    refine go_getf dPF_told_130 qf_PF_10 hA.1 rfl ?_
    refine go_getf dPF_told_133 qf_PF_66 hA.2.1.1 rfl ?_
    refine go_getf dPF_told_136 qf_PF_70 hA.2.1.2.1.1 rfl ?_
    refine go_iret dPF_told_139 rfl rfl ?_ (Nat.le_of_ble_eq_true rfl) (Nat.le_of_ble_eq_true rfl)
    exact retF (by rw [toF, toV, if_neg s1, if_neg s2, if_neg s3, if_neg s4, if_neg s5, if_neg s6, if_pos s7]) hA (Sm.refl _ _ _)
  refine go_tableOut (tgt := 140) dPF_told_1 (by have a0 := lv_neT s1 (a := 0) (by decide); have a1 := lv_neT s2 (a := 1) (by decide); have a2 := lv_neT s3 (a := 2) (by decide); have a3 := lv_neT s4 (a := 3) (by decide); have a4 := lv_neT s5 (a := 4) (by decide); have a5 := lv_neT s6 (a := 5) (by decide); have a6 := lv_neT s7 (a := 6) (by decide); omega) ?_
  refine go_iconst (v := -1) dPF_told_140 (by decide) ?_
  refine go_iret dPF_told_141 rfl rfl ?_ (Nat.le_of_ble_eq_true rfl) (Nat.le_of_ble_eq_true rfl)
  exact retF (by rw [toF, toV, if_neg s1, if_neg s2, if_neg s3, if_neg s4, if_neg s5, if_neg s6, if_neg s7]) hA (Sm.refl _ _ _)
set_option maxHeartbeats 4000000 in
theorem o_drop {E : pmEv} {h : pmH} {x : Nat} {α : aPF} (hA : PFA h x α) (hS : SA E h x) : Call E mPF_drop [.ref x] h none 4 24 (RetF x h (drF α)) := by
  obtain ⟨Rw, ow, hW⟩ := hA.2.2.1
  have hw15 := hA.2.2.2.2.1
  have hf20 := hA.2.2.2.2.2
  have ho := hA.2.1.2.2.2.2.2
  have hb := ho.b
  have hkk := ho.k
  have hwh := ho.w
  have hc64 := hA.2.1.2.1.2.2
  have hx6 := hA.2.1.2.2.2.1.2.2
  refine call_of (L := [some (.ref x)]) ok_mPF_drop (Nat.le_of_ble_eq_true rfl) ?_
  refine go_aload_n dPF_drop_0 rfl ?_
  refine go_getf dPF_drop_1 qf_PF_26 hA.1 rfl ?_
  refine go_getf dPF_drop_4 qf_PF_203 hA.2.2.2.1.1 rfl ?_
  refine go_virtX dPF_drop_7 ok_mBytes_clear im_mBytes_clear se_mBytes_clear qm_PF_271 hA.2.2.2.1.2.1.1 (a_Bytes_clear hA.2.2.2.1.2.1) (fun hx1 d1 q1 => ?_) (hnp := np_mBytes_clear)
  refine go_vret dPF_drop_10 rfl ?_ (Nat.le_of_ble_eq_true rfl) (Nat.le_of_ble_eq_true rfl)
  exact retF (by rw [drF]) (hA.fed q1.1 q1.2 (Nat.zero_le _)) (q1.2.sub (by omega) (by omega))
