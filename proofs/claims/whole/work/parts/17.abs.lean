/-! ===== what stays: frames; rows that are alike as far as they are used ===== -/
/-- the maps are the same outside a .. a + n -/
def Sm (h h' : pmH) (a n : Nat) : Prop := ∀ q, q < a ∨ a + n ≤ q → h' q = h q
theorem Sm.refl (h : pmH) (a n : Nat) : Sm h h a n := fun _ _ => rfl
theorem Sm.trans {h h1 h2 : pmH} {a n : Nat} (x : Sm h h1 a n) (y : Sm h1 h2 a n) : Sm h h2 a n := fun q e => (y q e).trans (x q e)
theorem Sm.sub {h h' : pmH} {a n b m : Nat} (x : Sm h h' b m) (h1 : a ≤ b) (h2 : b + m ≤ a + n) : Sm h h' a n := fun q e => x q (by omega)
theorem Sm.put {h : pmH} {a n q : Nat} (c : pmC) (h1 : a ≤ q) (h2 : q < a + n) : Sm h (pmU h q c) a n := fun r e => pmU_n _ _ (by omega)
theorem Sm.put' {h0 h : pmH} {a n q : Nat} (x : Sm h0 h a n) (c : pmC) (h1 : a ≤ q) (h2 : q < a + n) : Sm h0 (pmU h q c) a n := x.trans (Sm.put c h1 h2)
def Ag (n : Nat) (f g : Nat → Int32) : Prop := ∀ i, i < n → f i = g i
theorem Ag.refl (n : Nat) (f : Nat → Int32) : Ag n f f := fun _ _ => rfl
theorem Ag.mono {n m : Nat} {f g : Nat → Int32} (h : Ag n f g) (hm : m ≤ n) : Ag m f g := fun i hi => h i (by omega)
theorem Ag.symm {n : Nat} {f g : Nat → Int32} (h : Ag n f g) : Ag n g f := fun i hi => (h i hi).symm
theorem Ag.trans {n : Nat} {f g k : Nat → Int32} (h : Ag n f g) (h' : Ag n g k) : Ag n f k := fun i hi => (h i hi).trans (h' i hi)
theorem Ag.up {n : Nat} {f g : Nat → Int32} (h : Ag n f g) (j : Nat) (x : Int32) : Ag n (upd f j x) (upd g j x) := fun i hi => by
  by_cases e : i = j
  · subst e; rw [pk_us, pk_us]
  · rw [pk_un e, pk_un e]; exact h i hi
theorem Ag.push {n : Nat} {f g : Nat → Int32} (h : Ag n f g) (x : Int32) : Ag (n + 1) (upd f n x) (upd g n x) := fun i hi => by
  by_cases e : i = n
  · subst e; rw [pk_us, pk_us]
  · rw [pk_un e, pk_un e]; exact h i (by omega)
theorem nI_inj {a b : Nat} (ha : a < 2 ^ 31) (hb : b < 2 ^ 31) : nI a = nI b ↔ a = b := ⟨fun q => by rw [← nI_clamp ha, ← nI_clamp hb, q], fun e => by rw [e]⟩
/-- it answers v, in a map with P -/
def RetX (v : Option Value) (P : pmH → Prop) (z : Option Nat) : pmA → pmS → Prop := fun o S => o = .inl v ∧ P S.1 ∧ S.2.1 = z
theorem retX {v : Option Value} {P : pmH → Prop} {z : Option Nat} {h' : pmH} {d : Bool} (hP : P h') : RetX v P z (.inl v) (h', z, d) := ⟨rfl, hP, rfl⟩
theorem retX_e {v w : Option Value} {P : pmH → Prop} {z : Option Nat} {h' : pmH} {d : Bool} (hv : w = v) (hP : P h') : RetX v P z (.inl w) (h', z, d) := ⟨by rw [hv], hP, rfl⟩
theorem RetW.X {v : Option Value} {h' : pmH} {z : Option Nat} {P : pmH → Prop} (hP : P h') {o : pmA} {S : pmS} (h : RetW v h' z o S) : RetX v P z o S := ⟨h.1, by rw [h.2.1]; exact hP, h.2.2⟩
theorem Call.X {E : pmEv} {M : pmMeth} {as : List Value} {h : pmH} {z : Option Nat} {v : Option Value} {h' : pmH} {P : pmH → Prop} (hC : Call E M as h z 0 0 (RetW v h' z)) (hP : P h') : Call E M as h z 0 0 (RetX v P z) := hC.mono fun _ _ q => q.X hP
theorem Call.R {E : pmEv} {M : pmMeth} {as : List Value} {h : pmH} {z : Option Nat} {v w : Value} (hC : Call E M as h z 0 0 (Ret (some v) (h, z, false))) (hv : v = w) : Call E M as h z 0 0 (Ret (some w) (h, z, false)) := by rw [← hv]; exact hC
section PRX
variable {E : pmEv} {F : pmFr} {pc : Nat} {L : pmL} {st : List Value} {S : pmS} {k n : Nat} {Q : pmA → pmS → Prop}
theorem go_virtX {x b ci : Nat} {fs : List Value} {r : vw_C} {M : pmMeth} {vs rest st0 : List Value} {v : Option Value} {P : pmH → Prop} {hh : pmH} {zz : Option Nat} {dd : Bool} {pc' : Nat} (hd : decode F.1.2.1 pc = .ok (.invokevirtual x, 3)) (hok : pmOk M) (him : Cond.instanceMethod M.1 ∈ pmW) (hse : Cond.selects M.1.cls M.1 M.1 ∈ pmW) (hl : Cond.methodLink F.1.1.cls x M.1 ∈ pmW) (hb : hh b = some (pmO ci fs)) (hC : Call E M (.ref b :: vs) hh zz 0 0 (RetX v P zz))
    (h : ∀ h' d, P h' → Go E F pc' L (v.toList ++ rest) (h', zz, d) k n Q)
    (hr : pmCl[ci]? = some r := by rfl) (hrc : r.1 = M.1.cls := by rfl) (hs0 : st0 = vs.reverse ++ .ref b :: rest := by rfl) (hnp : (parseMethodDescriptor M.1.desc).map (fun d => d.parameters.length) = some vs.length := by decide +kernel) (hfr : M.2.2.2.2.2.2.2.1 + 1 ≤ F.1.2.2.2.2.2.2.2.1 := by exact Nat.le_of_ble_eq_true rfl) (hlo : 8 + (M.2.2.1 + 11) + M.2.2.2.2.2.2.2.2 ≤ F.1.2.2.2.2.2.2.2.2 := by exact Nat.le_of_ble_eq_true rfl) (hcl : k ≤ F.2.2.1 := by exact Nat.le_of_ble_eq_true rfl) (hsl : n ≤ F.2.2.2 := by exact Nat.le_of_ble_eq_true rfl) (hW : (rest.map fun v => v.category).sum ≤ 8 := by exact Nat.le_of_ble_eq_true rfl) (hp : pc + 3 = pc' := by rfl) : Go E F pc L st0 (hh, zz, dd) k n Q :=
  go_virt hd hok him hse hl hb hC (fun v' S'' hq => by obtain ⟨h1, h2, h3⟩ := hq; cases h1; rw [h3]; exact h _ _ h2) (fun x S'' hq => by obtain ⟨h1, -⟩ := hq; cases h1) hr hrc hs0 hnp hfr hlo hcl hsl hW hp
theorem go_statX {x : Nat} {M : pmMeth} {vs rest st0 : List Value} {v : Option Value} {P : pmH → Prop} {hh : pmH} {zz : Option Nat} {dd : Bool} {pc' : Nat} (hd : decode F.1.2.1 pc = .ok (.invokestatic x, 3)) (hok : pmOk M) (hst : Cond.static M.1 ∈ pmW) (hl : Cond.methodLink F.1.1.cls x M.1 ∈ pmW) (hC : Call E M vs hh zz 0 0 (RetX v P zz))
    (h : ∀ h' d, P h' → Go E F pc' L (v.toList ++ rest) (h', zz, d) k n Q)
    (hs0 : st0 = vs.reverse ++ rest := by rfl) (hnp : (parseMethodDescriptor M.1.desc).map (fun d => d.parameters.length) = some vs.length := by decide +kernel) (hfr : M.2.2.2.2.2.2.2.1 + 1 ≤ F.1.2.2.2.2.2.2.2.1 := by exact Nat.le_of_ble_eq_true rfl) (hlo : 8 + (M.2.2.1 + 11) + M.2.2.2.2.2.2.2.2 ≤ F.1.2.2.2.2.2.2.2.2 := by exact Nat.le_of_ble_eq_true rfl) (hcl : k ≤ F.2.2.1 := by exact Nat.le_of_ble_eq_true rfl) (hsl : n ≤ F.2.2.2 := by exact Nat.le_of_ble_eq_true rfl) (hW : (rest.map fun v => v.category).sum ≤ 8 := by exact Nat.le_of_ble_eq_true rfl) (hp : pc + 3 = pc' := by rfl) : Go E F pc L st0 (hh, zz, dd) k n Q :=
  go_stat hd hok hst hl hC (fun v' S'' hq => by obtain ⟨h1, h2, h3⟩ := hq; cases h1; rw [h3]; exact h _ _ h2) (fun x S'' hq => by obtain ⟨h1, -⟩ := hq; cases h1) hs0 hnp hfr hlo hcl hsl hW hp
theorem go_virtP {x b ci : Nat} {fs : List Value} {r : vw_C} {M : pmMeth} {vs rest st0 : List Value} {v : Option Value} {hh : pmH} {zz : Option Nat} {dd : Bool} {pc' : Nat} (hd : decode F.1.2.1 pc = .ok (.invokevirtual x, 3)) (hok : pmOk M) (him : Cond.instanceMethod M.1 ∈ pmW) (hse : Cond.selects M.1.cls M.1 M.1 ∈ pmW) (hl : Cond.methodLink F.1.1.cls x M.1 ∈ pmW) (hb : hh b = some (pmO ci fs)) (hC : Call E M (.ref b :: vs) hh zz 0 0 (Ret v (hh, zz, false)))
    (h : Go E F pc' L (v.toList ++ rest) (hh, zz, dd) k n Q)
    (hr : pmCl[ci]? = some r := by rfl) (hrc : r.1 = M.1.cls := by rfl) (hs0 : st0 = vs.reverse ++ .ref b :: rest := by rfl) (hnp : (parseMethodDescriptor M.1.desc).map (fun d => d.parameters.length) = some vs.length := by decide +kernel) (hfr : M.2.2.2.2.2.2.2.1 + 1 ≤ F.1.2.2.2.2.2.2.2.1 := by exact Nat.le_of_ble_eq_true rfl) (hlo : 8 + (M.2.2.1 + 11) + M.2.2.2.2.2.2.2.2 ≤ F.1.2.2.2.2.2.2.2.2 := by exact Nat.le_of_ble_eq_true rfl) (hcl : k ≤ F.2.2.1 := by exact Nat.le_of_ble_eq_true rfl) (hsl : n ≤ F.2.2.2 := by exact Nat.le_of_ble_eq_true rfl) (hW : (rest.map fun v => v.category).sum ≤ 8 := by exact Nat.le_of_ble_eq_true rfl) (hp : pc + 3 = pc' := by rfl) : Go E F pc L st0 (hh, zz, dd) k n Q :=
  go_virt hd hok him hse hl hb hC (fun v' S'' hq => by obtain ⟨h1, h2⟩ := hq; cases h1; cases h2; rw [Bool.or_false]; exact h) (fun x S'' hq => by obtain ⟨h1, -⟩ := hq; cases h1) hr hrc hs0 hnp hfr hlo hcl hsl hW hp
theorem go_statP {x : Nat} {M : pmMeth} {vs rest st0 : List Value} {v : Option Value} {hh : pmH} {zz : Option Nat} {dd : Bool} {pc' : Nat} (hd : decode F.1.2.1 pc = .ok (.invokestatic x, 3)) (hok : pmOk M) (hst : Cond.static M.1 ∈ pmW) (hl : Cond.methodLink F.1.1.cls x M.1 ∈ pmW) (hC : Call E M vs hh zz 0 0 (Ret v (hh, zz, false)))
    (h : Go E F pc' L (v.toList ++ rest) (hh, zz, dd) k n Q)
    (hs0 : st0 = vs.reverse ++ rest := by rfl) (hnp : (parseMethodDescriptor M.1.desc).map (fun d => d.parameters.length) = some vs.length := by decide +kernel) (hfr : M.2.2.2.2.2.2.2.1 + 1 ≤ F.1.2.2.2.2.2.2.2.1 := by exact Nat.le_of_ble_eq_true rfl) (hlo : 8 + (M.2.2.1 + 11) + M.2.2.2.2.2.2.2.2 ≤ F.1.2.2.2.2.2.2.2.2 := by exact Nat.le_of_ble_eq_true rfl) (hcl : k ≤ F.2.2.1 := by exact Nat.le_of_ble_eq_true rfl) (hsl : n ≤ F.2.2.2 := by exact Nat.le_of_ble_eq_true rfl) (hW : (rest.map fun v => v.category).sum ≤ 8 := by exact Nat.le_of_ble_eq_true rfl) (hp : pc + 3 = pc' := by rfl) : Go E F pc L st0 (hh, zz, dd) k n Q :=
  go_stat hd hok hst hl hC (fun v' S'' hq => by obtain ⟨h1, h2⟩ := hq; cases h1; cases h2; rw [Bool.or_false]; exact h) (fun x S'' hq => by obtain ⟨h1, -⟩ := hq; cases h1) hs0 hnp hfr hlo hcl hsl hW hp
end PRX
/-! rows of bytes as far as they are used: p.1 in them, p.2 bytes (those behind the room are not kept) -/
abbrev aRow : Type := (Nat → Int32) × Nat
def BA (h : pmH) (b N : Nat) (p : aRow) : Prop := h b = some (pmO 0 [.ref (b + 1), .int (nI (min N p.2))]) ∧ (∃ f, h (b + 1) = some (pmI N f) ∧ Ag (min N p.2) f p.1) ∧ N ≤ 4096
def wA (p : aRow) (x : Int32) : aRow := (upd p.1 p.2 x, p.2 + 1)
def wN (p : aRow) (x : Int32) : aRow := wA (wA (wA (wA p (u4 x 24)) (u4 x 16 &&& 255)) (u4 x 8 &&& 255)) (x &&& 255)
/-- n bytes more: g i, g (i + 1) .. -/
def wAs (g : Nat → Int32) : Nat → Nat → aRow → aRow
  | _, 0, p => p
  | i, n + 1, p => wAs g (i + 1) n (wA p (g i))
theorem BA.raw {h : pmH} {b N : Nat} {p : aRow} (hB : BA h b N p) : ∃ f, IsB h b (b + 1) N f (min N p.2) ∧ Ag (min N p.2) f p.1 := by
  obtain ⟨h1, ⟨f, h2, h3⟩, h4⟩ := hB
  exact ⟨f, ⟨h1, h2, Nat.min_le_left _ _, h4⟩, h3⟩
theorem BA.fr {h h' : pmH} {b N : Nat} {p : aRow} (hB : BA h b N p) (h1 : h' b = h b) (h2 : h' (b + 1) = h (b + 1)) : BA h' b N p := by
  obtain ⟨h3, ⟨f, h4, h5⟩, h6⟩ := hB
  exact ⟨h1.trans h3, ⟨f, h2.trans h4, h5⟩, h6⟩
theorem BA.sm {h h' : pmH} {b N a n : Nat} {p : aRow} (hB : BA h b N p) (hs : Sm h h' a n) (hd : b + 2 ≤ a ∨ a + n ≤ b) : BA h' b N p := hB.fr (hs _ (by omega)) (hs _ (by omega))
theorem HB_sm {h : pmH} {b N : Nat} {f : Nat → Int32} {c : Nat} : Sm h (HB h b (b + 1) N f c) b 2 := fun q e => HB_o (by omega) (by omega)
theorem HB_ba {h : pmH} {b N : Nat} {f : Nat → Int32} {p : aRow} {c : Nat} (hN : N ≤ 4096) (hc : c = min N p.2) (ha : Ag (min N p.2) f p.1) : BA (HB h b (b + 1) N f c) b N p ∧ Sm h (HB h b (b + 1) N f c) b 2 := by
  subst hc
  exact ⟨⟨pmU_s _ _ _, ⟨f, by unfold HB; rw [pmU_n _ _ (by omega), pmU_s], ha⟩, hN⟩, HB_sm⟩
theorem bv_ag {f g : Nat → Int32} {c : Nat} (h : Ag c f g) (hc : c ≤ 4096) (i : Int32) : bv f c i = bv g c i := by
  unfold bv
  by_cases e : 0 ≤ i ∧ i < nI c
  · rw [if_pos e, if_pos e]
    obtain ⟨j, hj, rfl⟩ := nI_of (x := i) (Int32.not_lt.mpr e.1)
    rw [nI_clamp hj]
    exact h j ((nI_ltI hj (by omega)).mp e.2)
  · rw [if_neg e, if_neg e]
theorem bCrc_ag {f g : Nat → Int32} {c : Nat} (h : Ag c f g) (hc : c ≤ 4096) : ∀ (n : Nat) (i s : Int32), bCrc f c n i s = bCrc g c n i s := by
  intro n
  induction n with
  | zero => intro i s; rfl
  | succ n ih => intro i s; simp only [bCrc]; rw [ih, bv_ag h hc]
section aBytes
variable {E : pmEv} {h : pmH} {z : Option Nat} {b N : Nat} {p : aRow}
theorem a_Bytes_has {i : Int32} (hB : BA h b N p) (hN : p.2 ≤ N) : Call E mBytes_has [.ref b, .int i] h z 0 0 (Ret (some (.int (bI (0 ≤ i ∧ i < nI p.2)))) (h, z, false)) := by
  obtain ⟨f, hb, ha⟩ := hB.raw
  rw [Nat.min_eq_right hN] at hb
  exact c_Bytes_has hb
theorem a_Bytes_value {i : Int32} (hB : BA h b N p) (hN : p.2 ≤ N) : Call E mBytes_value [.ref b, .int i] h z 0 0 (Ret (some (.int (bv p.1 p.2 i))) (h, z, false)) := by
  obtain ⟨f, hb, ha⟩ := hB.raw
  rw [Nat.min_eq_right hN] at hb ha
  rw [← bv_ag ha (Nat.le_trans hb.2.2.1 hb.2.2.2)]
  exact c_Bytes_value hb
theorem bN4_ag {f g : Nat → Int32} {c : Nat} (h : Ag c f g) (hc : c ≤ 4096) (i : Int32) : bN4 f c i = bN4 g c i := by
  unfold bN4
  rw [bv_ag h hc, bv_ag h hc, bv_ag h hc, bv_ag h hc]
theorem a_Bytes_number {i : Int32} (hB : BA h b N p) (hN : p.2 ≤ N) : Call E mBytes_number [.ref b, .int i] h z 0 0 (Ret (some (.int (bN4 p.1 p.2 i))) (h, z, false)) := by
  obtain ⟨f, hb, ha⟩ := hB.raw
  rw [Nat.min_eq_right hN] at hb ha
  rw [← bN4_ag ha (Nat.le_trans hb.2.2.1 hb.2.2.2)]
  exact c_Bytes_number hb
theorem a_Bytes_hasWholeChunk {a l : Int32} (hB : BA h b N p) (hN : p.2 ≤ N) : Call E mBytes_hasWholeChunk [.ref b, .int a, .int l] h z 0 0 (Ret (some (.int (bI (12 + l ≤ nI p.2 - a)))) (h, z, false)) := by
  obtain ⟨f, hb, ha⟩ := hB.raw
  rw [Nat.min_eq_right hN] at hb
  exact c_Bytes_hasWholeChunk hb
theorem a_Bytes_clear (hB : BA h b N p) : Call E mBytes_clear [.ref b] h z 0 0 (RetX none (fun h' => BA h' b N (p.1, 0) ∧ Sm h h' b 2) z) := by
  obtain ⟨f, hb, ha⟩ := hB.raw
  exact (c_Bytes_clear hb).X (HB_ba hb.2.2.2 (by simp) (fun i hi => by simp at hi))
def Rp (N : Nat) (q : aRow) (p : aRow) : Prop := q.2 = min N p.2 ∧ Ag (min N p.2) q.1 p.1
theorem Rp.add {N : Nat} {q p : aRow} (hr : Rp N q p) (x : Int32) : Rp N (bA N q x) (wA p x) := by
  obtain ⟨q1, q2⟩ := q
  obtain ⟨hc, ha⟩ := hr
  simp only at hc ha
  subst hc
  by_cases e : p.2 < N
  · have e1 : min N p.2 = p.2 := by omega
    have e2 : min N (wA p x).2 = p.2 + 1 := by simp only [wA]; omega
    unfold Rp
    rw [e2]
    rw [e1] at ha ⊢
    rw [bA, if_pos e]
    exact ⟨rfl, ha.push x⟩
  · have e1 : min N p.2 = N := by omega
    have e2 : min N (wA p x).2 = N := by simp only [wA]; omega
    unfold Rp
    rw [e2]
    rw [e1] at ha ⊢
    rw [bA, if_neg (Nat.lt_irrefl N)]
    exact ⟨rfl, fun i hi => by rw [show (wA p x).1 i = p.1 i from pk_un (by omega)]; exact ha i hi⟩
theorem Rp.ba {h : pmH} {b N : Nat} {q p : aRow} (hr : Rp N q p) (hN : N ≤ 4096) : BA (HB h b (b + 1) N q.1 q.2) b N p ∧ Sm h (HB h b (b + 1) N q.1 q.2) b 2 := HB_ba hN hr.1 hr.2
theorem a_Bytes_add {x : Int32} (hB : BA h b N p) : Call E mBytes_add [.ref b, .int x] h z 0 0 (RetX none (fun h' => BA h' b N (wA p x) ∧ Sm h h' b 2) z) := by
  obtain ⟨f, hb, ha⟩ := hB.raw
  exact (c_Bytes_add hb).X ((Rp.add (q := (f, min N p.2)) ⟨rfl, ha⟩ x).ba hb.2.2.2)
theorem a_Bytes_addNumber {x : Int32} (hB : BA h b N p) : Call E mBytes_addNumber [.ref b, .int x] h z 0 0 (RetX none (fun h' => BA h' b N (wN p x) ∧ Sm h h' b 2) z) := by
  obtain ⟨f, hb, ha⟩ := hB.raw
  exact (c_Bytes_addNumber hb).X ((((((Rp.add (q := (f, min N p.2)) ⟨rfl, ha⟩ (u4 x 24)).add (u4 x 16 &&& 255)).add (u4 x 8 &&& 255)).add (x &&& 255))).ba hb.2.2.2)
/-- one byte in the row becomes another -/
def wS (p : aRow) (j : Nat) (x : Int32) : aRow := (upd p.1 j x, p.2)
def wS4 (p : aRow) (j : Nat) (x : Int32) : aRow := wS (wS (wS (wS p j (u4 x 24)) (j + 1) (u4 x 16 &&& 255)) (j + 2) (u4 x 8 &&& 255)) (j + 3) (x &&& 255)
theorem bs_n {f : Nat → Int32} {c j : Nat} {x : Int32} (hc : c ≤ 8192) (hj : j < c) : bs f c (nI j) x = upd f j x := by
  unfold bs
  rw [if_pos ((has_n hc (by omega)).mpr hj), nI_clamp (by omega)]
theorem a_Bytes_set {j : Nat} {x : Int32} (hB : BA h b N p) (hN : p.2 ≤ N) (hj : j < p.2) : Call E mBytes_set [.ref b, .int (nI j), .int x] h z 0 0 (RetX none (fun h' => BA h' b N (wS p j x) ∧ Sm h h' b 2) z) := by
  obtain ⟨f, hb, ha⟩ := hB.raw
  rw [Nat.min_eq_right hN] at hb ha
  have h4 := hb.2.2.2
  refine (c_Bytes_set hb).X ?_
  rw [bs_n (by omega) hj]
  exact HB_ba h4 (p := wS p j x) (Nat.min_eq_right hN).symm (by rw [show (wS p j x).2 = p.2 from rfl, Nat.min_eq_right hN]; exact ha.up j x)
theorem nI_a1 (j : Nat) : nI j + 1 = nI (j + 1) := (nI_succ j).symm
theorem nI_a2 (j : Nat) : nI j + 2 = nI (j + 2) := by rw [show (2 : Int32) = nI 2 from rfl, nI_add]
theorem nI_a3 (j : Nat) : nI j + 3 = nI (j + 3) := by rw [show (3 : Int32) = nI 3 from rfl, nI_add]
theorem nI_a4 (j : Nat) : nI j + 4 = nI (j + 4) := by rw [show (4 : Int32) = nI 4 from rfl, nI_add]
theorem nI_a8 (j : Nat) : nI j + 8 = nI (j + 8) := by rw [show (8 : Int32) = nI 8 from rfl, nI_add]
theorem bs4_n {f : Nat → Int32} {c j : Nat} {x : Int32} (hc : c ≤ 8192) (hj : j + 3 < c) : bs4 f c (nI j) x = (wS4 (f, c) j x).1 := by
  unfold bs4
  rw [nI_a1, nI_a2, nI_a3, bs_n hc (by omega), bs_n hc (by omega), bs_n hc (by omega), bs_n hc (by omega)]
  rfl
theorem a_Bytes_setNumber {j : Nat} {x : Int32} (hB : BA h b N p) (hN : p.2 ≤ N) (hj : j + 3 < p.2) : Call E mBytes_setNumber [.ref b, .int (nI j), .int x] h z 0 0 (RetX none (fun h' => BA h' b N (wS4 p j x) ∧ Sm h h' b 2) z) := by
  obtain ⟨f, hb, ha⟩ := hB.raw
  rw [Nat.min_eq_right hN] at hb ha
  have h4 := hb.2.2.2
  refine (c_Bytes_setNumber hb).X ?_
  rw [bs4_n (by omega) hj]
  exact HB_ba h4 (p := wS4 p j x) (Nat.min_eq_right hN).symm (by rw [show (wS4 p j x).2 = p.2 from rfl, Nat.min_eq_right hN]; exact (((ha.up j _).up _ _).up _ _).up _ _)
/-- the sum of l bytes from a on -/
def wSum (p : aRow) (a l : Nat) : Int32 := bCrc p.1 p.2 l (nI a) (-1) ^^^ (-1)
theorem a_Bytes_rightSum (hT : h (E.2.2.2.2 1) = some (pmT 16 bT)) {a l : Nat} (hal : a + l ≤ 8000) (hB : BA h b N p) (hN : p.2 ≤ N) : Call E mBytes_rightSum [.ref b, .int (nI a), .int (nI l)] h z 0 0 (Ret (some (.int (wSum p (a + 4) (l + 4)))) (h, z, false)) := by
  obtain ⟨f, hb, ha⟩ := hB.raw
  rw [Nat.min_eq_right hN] at hb ha
  have h4 := hb.2.2.2
  unfold wSum
  rw [← bCrc_ag ha (by omega)]
  exact c_Bytes_rightSum hb hT hal
end aBytes
