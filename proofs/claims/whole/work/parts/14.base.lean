/-! ===== writers; rows of bytes ===== -/
/-- it answers v, with the map h' (whether anything was written is not said) -/
def RetW (v : Option Value) (h' : pmH) (z : Option Nat) : pmA → pmS → Prop := fun o S => o = .inl v ∧ S.1 = h' ∧ S.2.1 = z
theorem retW_v {v : Option Value} {h' : pmH} {z : Option Nat} {d : Bool} : RetW v h' z (.inl v) (h', z, d) := ⟨rfl, rfl, rfl⟩
theorem retW_e {v w : Option Value} {h' h'' : pmH} {z : Option Nat} {d : Bool} (hv : w = v) (hh : h'' = h') : RetW v h' z (.inl w) (h'', z, d) := ⟨by rw [hv], hh, rfl⟩
section PRW
variable {E : pmEv} {F : pmFr} {pc : Nat} {L : pmL} {st : List Value} {S : pmS} {k n : Nat} {Q : pmA → pmS → Prop}
theorem go_virtW {x b ci : Nat} {fs : List Value} {r : vw_C} {M : pmMeth} {vs rest st0 : List Value} {v : Option Value} {h' : pmH} {z' : Option Nat} {pc' : Nat} (hd : decode F.1.2.1 pc = .ok (.invokevirtual x, 3)) (hok : pmOk M) (him : Cond.instanceMethod M.1 ∈ pmW) (hse : Cond.selects M.1.cls M.1 M.1 ∈ pmW) (hl : Cond.methodLink F.1.1.cls x M.1 ∈ pmW) (hb : S.1 b = some (pmO ci fs)) (hC : Call E M (.ref b :: vs) S.1 S.2.1 0 0 (RetW v h' z'))
    (h : ∀ d, Go E F pc' L (v.toList ++ rest) (h', z', d) k n Q)
    (hr : pmCl[ci]? = some r := by rfl) (hrc : r.1 = M.1.cls := by rfl) (hs0 : st0 = vs.reverse ++ .ref b :: rest := by rfl) (hnp : (parseMethodDescriptor M.1.desc).map (fun d => d.parameters.length) = some vs.length := by decide +kernel) (hfr : M.2.2.2.2.2.2.2.1 + 1 ≤ F.1.2.2.2.2.2.2.2.1 := by exact Nat.le_of_ble_eq_true rfl) (hlo : 8 + (M.2.2.1 + 11) + M.2.2.2.2.2.2.2.2 ≤ F.1.2.2.2.2.2.2.2.2 := by exact Nat.le_of_ble_eq_true rfl) (hcl : k ≤ F.2.2.1 := by exact Nat.le_of_ble_eq_true rfl) (hsl : n ≤ F.2.2.2 := by exact Nat.le_of_ble_eq_true rfl) (hW : (rest.map fun v => v.category).sum ≤ 8 := by exact Nat.le_of_ble_eq_true rfl) (hp : pc + 3 = pc' := by rfl) : Go E F pc L st0 S k n Q :=
  go_virt hd hok him hse hl hb hC (fun v' S'' hq => by obtain ⟨h1, h2, h3⟩ := hq; cases h1; rw [h2, h3]; exact h _) (fun x S'' hq => by obtain ⟨h1, -⟩ := hq; cases h1) hr hrc hs0 hnp hfr hlo hcl hsl hW hp
theorem go_statW {x : Nat} {M : pmMeth} {vs rest st0 : List Value} {v : Option Value} {h' : pmH} {z' : Option Nat} {pc' : Nat} (hd : decode F.1.2.1 pc = .ok (.invokestatic x, 3)) (hok : pmOk M) (hst : Cond.static M.1 ∈ pmW) (hl : Cond.methodLink F.1.1.cls x M.1 ∈ pmW) (hC : Call E M vs S.1 S.2.1 0 0 (RetW v h' z'))
    (h : ∀ d, Go E F pc' L (v.toList ++ rest) (h', z', d) k n Q)
    (hs0 : st0 = vs.reverse ++ rest := by rfl) (hnp : (parseMethodDescriptor M.1.desc).map (fun d => d.parameters.length) = some vs.length := by decide +kernel) (hfr : M.2.2.2.2.2.2.2.1 + 1 ≤ F.1.2.2.2.2.2.2.2.1 := by exact Nat.le_of_ble_eq_true rfl) (hlo : 8 + (M.2.2.1 + 11) + M.2.2.2.2.2.2.2.2 ≤ F.1.2.2.2.2.2.2.2.2 := by exact Nat.le_of_ble_eq_true rfl) (hcl : k ≤ F.2.2.1 := by exact Nat.le_of_ble_eq_true rfl) (hsl : n ≤ F.2.2.2 := by exact Nat.le_of_ble_eq_true rfl) (hW : (rest.map fun v => v.category).sum ≤ 8 := by exact Nat.le_of_ble_eq_true rfl) (hp : pc + 3 = pc' := by rfl) : Go E F pc L st0 S k n Q :=
  go_stat hd hok hst hl hC (fun v' S'' hq => by obtain ⟨h1, h2, h3⟩ := hq; cases h1; rw [h2, h3]; exact h _) (fun x S'' hq => by obtain ⟨h1, -⟩ := hq; cases h1) hs0 hnp hfr hlo hcl hsl hW hp
end PRW
theorem pmU_uu (h : pmH) (a : Nat) (c d : pmC) : pmU (pmU h a c) a d = pmU h a d := by
  funext q
  by_cases e : q = a <;> simp [pmU, e]
theorem pmU_self {h : pmH} {a : Nat} {c : pmC} (hc : h a = some c) : pmU h a c = h := by
  funext q
  by_cases e : q = a
  · subst e; rw [pmU_s, hc]
  · rw [pmU_n h c e]
theorem pmU_comm {h : pmH} {a b : Nat} {c d : pmC} (hab : a ≠ b) : pmU (pmU h a c) b d = pmU (pmU h b d) a c := by
  funext q
  by_cases e : q = a
  · subst e; rw [pmU_s, pmU_n _ _ hab, pmU_s]
  · by_cases e2 : q = b
    · subst e2; rw [pmU_s, pmU_n _ _ e, pmU_s]
    · rw [pmU_n _ _ e2, pmU_n _ _ e, pmU_n _ _ e, pmU_n _ _ e2]
/-- a row of bytes at b, its values at v: N places, f in them, c of them taken -/
def IsB (h : pmH) (b v N : Nat) (f : Nat → Int32) (c : Nat) : Prop := h b = some (pmO 0 [.ref v, .int (nI c)]) ∧ h v = some (pmI N f) ∧ c ≤ N ∧ N ≤ 4096
def HB (h : pmH) (b v N : Nat) (f : Nat → Int32) (c : Nat) : pmH := pmU (pmU h v (pmI N f)) b (pmO 0 [.ref v, .int (nI c)])
theorem IsB.ne {h : pmH} {b v N : Nat} {f : Nat → Int32} {c : Nat} (hB : IsB h b v N f c) : b ≠ v := pmNe hB.1 hB.2.1 (fun q => by cases q)
theorem HB_is {h : pmH} {b v N : Nat} {f f' : Nat → Int32} {c c' : Nat} (hB : IsB h b v N f c) (hc : c' ≤ N) : IsB (HB h b v N f' c') b v N f' c' := ⟨pmU_s _ _ _, by unfold HB; rw [pmU_n _ _ (Ne.symm hB.ne), pmU_s], hc, hB.2.2.2⟩
theorem HB_o {h : pmH} {b v N q : Nat} {f : Nat → Int32} {c : Nat} (h1 : q ≠ b) (h2 : q ≠ v) : HB h b v N f c q = h q := by unfold HB; rw [pmU_n _ _ h1, pmU_n _ _ h2]
theorem HB_self {h : pmH} {b v N : Nat} {f : Nat → Int32} {c : Nat} (hB : IsB h b v N f c) : HB h b v N f c = h := by
  unfold HB
  rw [pmU_self hB.2.1, pmU_self hB.1]
theorem HB_HB {h : pmH} {b v N : Nat} {f f' : Nat → Int32} {c c' : Nat} (hbv : b ≠ v) : HB (HB h b v N f c) b v N f' c' = HB h b v N f' c' := by
  unfold HB
  rw [pmU_comm hbv, pmU_uu, pmU_uu]
theorem HB_v {h : pmH} {b v N : Nat} {f f' : Nat → Int32} {c : Nat} (hB : IsB h b v N f c) : pmU h v (pmI N f') = HB h b v N f' c := by
  unfold HB
  rw [pmU_comm (Ne.symm hB.ne), pmU_self hB.1]
theorem in_has {i : Int32} {c N : Nat} (h : 0 ≤ i ∧ i < nI c) (hc : c ≤ N) (hN : N ≤ 4096) : vp_in i N := by
  have h1 := Int32.le_iff_toInt_le.mp h.1
  have h2 := Int32.lt_iff_toInt_lt.mp h.2
  rw [nI_toInt (by omega)] at h2
  refine vp_in_iff.mpr ⟨by simpa using h1, by omega⟩
/-- what stands at i in a row, 0 where nothing does -/
def bv (f : Nat → Int32) (c : Nat) (i : Int32) : Int32 := if 0 ≤ i ∧ i < nI c then f i.toNatClampNeg else 0
def bs (f : Nat → Int32) (c : Nat) (i x : Int32) : Nat → Int32 := if 0 ≤ i ∧ i < nI c then upd f i.toNatClampNeg x else f
theorem bN_lt {h : pmH} {b v N : Nat} {f : Nat → Int32} {c : Nat} (hB : IsB h b v N f c) (q : ¬ Int32.ofNat N ≤ nI c) : c < N := Nat.not_le.mp fun e => q (nI_le e (by have := hB.2.2.1; have := hB.2.2.2; omega))
theorem bN_ge {h : pmH} {b v N : Nat} {f : Nat → Int32} {c : Nat} (hB : IsB h b v N f c) (q : Int32.ofNat N ≤ nI c) : ¬ c < N := fun e => nI_ge e (by have := hB.2.2.2; omega) q
theorem bN_in {h : pmH} {b v N : Nat} {f : Nat → Int32} {c : Nat} (hB : IsB h b v N f c) (q : c < N) : vp_in (nI c) N := vp_in_nI q (by have := hB.2.2.2; omega)
/-- the number of four bytes from i on -/
def bN4 (f : Nat → Int32) (c : Nat) (i : Int32) : Int32 := bv f c i <<< (24 &&& 31) ||| bv f c (i + 1) <<< (16 &&& 31) ||| bv f c (i + 2) <<< (8 &&& 31) ||| bv f c (i + 3)
theorem bN_31 {h : pmH} {b v N : Nat} {f : Nat → Int32} {c : Nat} (hB : IsB h b v N f c) : c < 2 ^ 31 := by have := hB.2.2.1; have := hB.2.2.2; omega
/-- one byte more, if there is room -/
def bA (N : Nat) (p : (Nat → Int32) × Nat) (x : Int32) : (Nat → Int32) × Nat := if p.2 < N then (upd p.1 p.2 x, p.2 + 1) else p
theorem bA_le {N : Nat} {p : (Nat → Int32) × Nat} (x : Int32) (h : p.2 ≤ N) : (bA N p x).2 ≤ N := by
  unfold bA
  by_cases e : p.2 < N
  · rw [if_pos e]; exact e
  · rw [if_neg e]; exact h
theorem HB_bA {h : pmH} {b v N : Nat} {f : Nat → Int32} {c : Nat} (hB : IsB h b v N f c) (x : Int32) : IsB (HB h b v N (bA N (f, c) x).1 (bA N (f, c) x).2) b v N (bA N (f, c) x).1 (bA N (f, c) x).2 := HB_is hB (bA_le x hB.2.2.1)
def u4 (x y : Int32) : Int32 := (x.toUInt32 >>> (y.toUInt32 &&& Int32.toUInt32 31)).toInt32
/-- the four bytes of a number -/
def bA4 (N : Nat) (p : (Nat → Int32) × Nat) (x : Int32) : (Nat → Int32) × Nat := bA N (bA N (bA N (bA N p (u4 x 24)) (u4 x 16 &&& 255)) (u4 x 8 &&& 255)) (x &&& 255)
def bs4 (f : Nat → Int32) (c : Nat) (i x : Int32) : Nat → Int32 := bs (bs (bs (bs f c i (u4 x 24)) c (i + 1) (u4 x 16 &&& 255)) c (i + 2) (u4 x 8 &&& 255)) c (i + 3) (x &&& 255)
/-- the table of sums -/
def bT : Nat → Int32 := fun j => ([0, 498536548, 997073096, 651767980, 1994146192, 1802195444, 1303535960, 1342533948, -306674912, -267414716, -690576408, -882789492, -1687895376, -2032938284, -1609899400, -1111625188] : List Int32).getD j 0
def bT4 (s : Int32) : Int32 := u4 s 4 ^^^ bT (s &&& 15).toNatClampNeg
def bCrc (f : Nat → Int32) (c : Nat) : Nat → Int32 → Int32 → Int32
  | 0, _, s => s
  | n + 1, i, s => bCrc f c n (i + 1) (bT4 (bT4 (s ^^^ bv f c i)))
theorem in_15 (s : Int32) : vp_in (s &&& 15) 16 := pk_andIn s (k := 4) (by decide) (by decide)
/-- the row behind a write gets a name -/
theorem go_nB {E : pmEv} {F : pmFr} {pc : Nat} {L : pmL} {st : List Value} {k n : Nat} {Q : pmA → pmS → Prop} {h : pmH} {b v N : Nat} {f f' : Nat → Int32} {c c' : Nat} {z : Option Nat} {d : Bool} (hB : IsB h b v N f c) (hc : c' ≤ N) (kk : ∀ h', h' = HB h b v N f' c' → IsB h' b v N f' c' → Go E F pc L st (h', z, d) k n Q) : Go E F pc L st (HB h b v N f' c', z, d) k n Q := kk _ rfl (HB_is hB hc)
theorem nI_4 : (4 : Int32) = nI 4 := rfl
theorem nI_8 : (8 : Int32) = nI 8 := rfl
theorem go_by {E : pmEv} {F : pmFr} {pc : Nat} {L : pmL} {st : List Value} {S : pmS} {k n : Nat} {Q : pmA → pmS → Prop} {x : Int32} (v : Int32) (h1 : x = v → Go E F pc L (.int v :: st) S k n Q) (h2 : ¬ x = v → Go E F pc L (.int x :: st) S k n Q) : Go E F pc L (.int x :: st) S k n Q := by
  by_cases e : x = v
  · rw [e]; exact h1 e
  · exact h2 e
/-- n bytes more: g i, g (i + 1) .. -/
def bAs (N : Nat) (g : Nat → Int32) : Nat → Nat → (Nat → Int32) × Nat → (Nat → Int32) × Nat
  | _, 0, p => p
  | i, n + 1, p => bAs N g (i + 1) n (bA N p (g i))
theorem bAs_le {N : Nat} {g : Nat → Int32} : ∀ (n i : Nat) (p : (Nat → Int32) × Nat), p.2 ≤ N → (bAs N g i n p).2 ≤ N := by
  intro n
  induction n with
  | zero => intro i p h; exact h
  | succ n ih => intro i p h; exact ih (i + 1) _ (bA_le _ h)
/-- the eight bytes -/
def bM : Nat → Int32 := fun j => ([137, 80, 78, 71, 13, 10, 26, 10] : List Int32).getD j 0
theorem bv_n {f : Nat → Int32} {c j : Nat} (hc : c ≤ 8192) (hj : j ≤ 8192) : bv f c (nI j) = if j < c then f j else 0 := by
  unfold bv
  have h1 : (0 ≤ nI j ∧ nI j < nI c) ↔ j < c := ⟨fun q => (nI_ltI (by omega) (by omega)).mp q.2, fun q => ⟨nI_pos' (by omega), nI_lt q (by omega)⟩⟩
  by_cases e : j < c
  · rw [if_pos (h1.mpr e), if_pos e, nI_clamp (by omega)]
  · rw [if_neg (fun q => e (h1.mp q)), if_neg e]
theorem has_n {c j : Nat} (hc : c ≤ 8192) (hj : j ≤ 8192) : (0 ≤ nI j ∧ nI j < nI c) ↔ j < c := ⟨fun q => (nI_ltI (by omega) (by omega)).mp q.2, fun q => ⟨nI_pos' (by omega), nI_lt q (by omega)⟩⟩
theorem chunk_n {c p l : Nat} (hc : c ≤ 8192) (hp : p ≤ 8192) (hl : l ≤ 8192) : (12 + nI l ≤ nI c - nI p) ↔ p + 12 + l ≤ c := by
  rw [show (12 : Int32) = nI 12 from rfl, nI_add, Int32.le_iff_toInt_le, nI_toInt (by omega), pk_sub_toInt (by omega) (by omega)]
  omega
theorem i_lt (x y : Int32) : x < y ↔ ¬ y ≤ x := Int32.not_le.symm
