/-! ===== Reading (by wip/whole/gen_tRead.py) ===== -/
theorem go_top {E : pmEv} {F : pmFr} {pc : Nat} {L : pmL} {st : List Value} {S : pmS} {k n : Nat} {Q : pmA → pmS → Prop} {x y : Int32} (e : x = y) (h : Go E F pc L (.int y :: st) S k n Q) : Go E F pc L (.int x :: st) S k n Q := by rw [e]; exact h
/-- whether it is there, the picture; the rows; isWhole, fault, place, chunks, leftOut, length, letters, rowBytes, head, palette, alphas, rows, rows' end -/
abbrev aRs : Type := (Bool × aPic) × aRow × (Nat → Int32)
def ReA (h : pmH) (r : Nat) (p : aRow) (S : aRs) : Prop := h r = some (pmO 4 [.ref (r + 1), .ref (r + 3), .ref (r + 13), .int (S.2.2 0), .int (S.2.2 1), .int (S.2.2 2), .int (S.2.2 3), .int (S.2.2 4), .int (S.2.2 5), .int (S.2.2 6), .int (S.2.2 7), .int (S.2.2 8), .int (S.2.2 9), .int (S.2.2 10), .int (S.2.2 11), .int (S.2.2 12)]) ∧ BA h (r + 1) 2000 p ∧ PiA h (r + 3) S.1.1 S.1.2 ∧ BA h (r + 13) 588 S.2.1
theorem ReA.put {h h' : pmH} {r : Nat} {p : aRow} {S : aRs} {g : Nat → Int32} (hR : ReA h r p S) (hq : h' r = some (pmO 4 [.ref (r + 1), .ref (r + 3), .ref (r + 13), .int (g 0), .int (g 1), .int (g 2), .int (g 3), .int (g 4), .int (g 5), .int (g 6), .int (g 7), .int (g 8), .int (g 9), .int (g 10), .int (g 11), .int (g 12)])) (hs : Sm h h' r 1) : ReA h' r p (S.1, S.2.1, g) := ⟨hq, hR.2.1.sm hs (by omega), hR.2.2.1.sm hs (by omega), hR.2.2.2.sm hs (by omega)⟩
theorem ReA.pic {h h' : pmH} {r : Nat} {p : aRow} {S : aRs} {t : Bool} {π : aPic} (hR : ReA h r p S) (hq : PiA h' (r + 3) t π) (hs : Sm h h' (r + 3) 10) : ReA h' r p ((t, π), S.2) := ⟨(hs _ (by omega)).trans hR.1, hR.2.1.sm hs (by omega), hq, hR.2.2.2.sm hs (by omega)⟩
theorem ReA.row {h h' : pmH} {r : Nat} {p : aRow} {S : aRs} {q : aRow} (hR : ReA h r p S) (hq : BA h' (r + 13) 588 q) (hs : Sm h h' (r + 13) 2) : ReA h' r p (S.1, q, S.2.2) := ⟨(hs _ (by omega)).trans hR.1, hR.2.1.sm hs (by omega), hR.2.2.1.sm hs (by omega), hq⟩
theorem ReA.fed {h h' : pmH} {r : Nat} {p q : aRow} {S : aRs} (hR : ReA h r p S) (hq : BA h' (r + 1) 2000 q) (hs : Sm h h' (r + 1) 2) : ReA h' r q S := ⟨(hs _ (by omega)).trans hR.1, hq, hR.2.2.1.sm hs (by omega), hR.2.2.2.sm hs (by omega)⟩
theorem ReA.sm {h h' : pmH} {r a n : Nat} {p : aRow} {S : aRs} (hR : ReA h r p S) (hs : Sm h h' a n) (hd : r + 15 ≤ a ∨ a + n ≤ r) : ReA h' r p S := ⟨(hs _ (by omega)).trans hR.1, hR.2.1.sm hs (by omega), hR.2.2.1.sm hs (by omega), hR.2.2.2.sm hs (by omega)⟩
def fr (f : Nat → Int32) (j : Nat) : Int32 := f j <<< (24 &&& 31) ||| f (j + 1) <<< (16 &&& 31) ||| f (j + 2) <<< (8 &&& 31) ||| f (j + 3)
theorem bv_in {f : Nat → Int32} {c j : Nat} (hc : c ≤ 8192) (hj : j < c) : bv f c (nI j) = f j := by rw [bv_n hc (by omega), if_pos hj]
theorem bN4_n {f : Nat → Int32} {c j : Nat} (hc : c ≤ 8192) (hj : j + 3 < c) : bN4 f c (nI j) = fr f j := by
  unfold bN4 fr
  rw [nI_a1, nI_a2, nI_a3, bv_in hc (by omega), bv_in hc (by omega), bv_in hc (by omega), bv_in hc (by omega)]
theorem a_Bytes_valN {E : pmEv} {h : pmH} {z : Option Nat} {b N : Nat} {p : aRow} {j : Nat} (hB : BA h b N p) (hN : p.2 ≤ N) (hj : j < p.2) : Call E mBytes_value [.ref b, .int (nI j)] h z 0 0 (Ret (some (.int (p.1 j))) (h, z, false)) := by
  rw [← bv_in (f := p.1) (hB.le hN) hj]
  exact a_Bytes_value hB hN
theorem a_Bytes_numN {E : pmEv} {h : pmH} {z : Option Nat} {b N : Nat} {p : aRow} {j : Nat} (hB : BA h b N p) (hN : p.2 ≤ N) (hj : j + 3 < p.2) : Call E mBytes_number [.ref b, .int (nI j)] h z 0 0 (Ret (some (.int (fr p.1 j))) (h, z, false)) := by
  rw [← bN4_n (f := p.1) (hB.le hN) hj]
  exact a_Bytes_number hB hN
theorem ite_c {P Q : Prop} [Decidable P] [Decidable Q] {α : Type} {a b c : α} (h : P ↔ Q) (e : a = b) : (if P then a else c) = if Q then b else c := by
  by_cases q : Q
  · rw [if_pos q, if_pos (h.mpr q), e]
  · rw [if_neg q, if_neg (fun x => q (h.mp x))]
def neG (g : Nat → Int32) : Nat → Int32 := upd g 12 (if ¬ g 11 = 0 ∧ ¬ g 6 = 1229209940 then 1 else 0)
def bgA (g : Nat → Int32) (f pl : Int32) : Nat → Int32 := upd (upd (upd (upd (upd (upd (upd (upd (upd (upd (upd g 0 0) 1 f) 2 pl) 3 0) 4 0) 7 0) 8 0) 9 0) 10 0) 11 0) 12 0
def begG (p : aRow) (g : Nat → Int32) : Nat → Int32 := if hasM p then bgA g 0 8 else bgA g 1 0
abbrev grW (x : Int32) : Prop := 65 ≤ ltr x 0 ∧ ltr x 0 ≤ 90
abbrev unkW (x : Int32) : Prop := grW x ∧ ¬ x = 1229472850 ∧ ¬ x = 1347179589 ∧ ¬ x = 1229209940 ∧ ¬ x = 1229278788
abbrev ordW (g : Nat → Int32) (π : aPic) : Prop := if g 8 = 0 then ¬ g 6 = 1229472850 else if g 6 = 1229209940 then (¬ g 12 = 0 ∨ (nI π.1.2.2.2 = 3 ∧ g 9 = 0)) else if g 6 = 1229278788 then g 11 = 0 else if g 6 = 1229472850 then True else if g 6 = 1347179589 then (¬ g 11 = 0 ∨ ¬ g 9 = 0 ∨ (nI π.1.2.2.2 = 0 ∨ nI π.1.2.2.2 = 4)) else if g 6 = 1732332865 then (¬ g 11 = 0 ∨ ¬ g 9 = 0 ∨ ¬ π.2.2.2.1 0 = -1) else if g 6 = 1883789683 then (¬ g 11 = 0 ∨ ¬ π.2.2.2.1 2 = -1) else if g 6 = 1934772034 then (¬ g 11 = 0 ∨ ¬ g 9 = 0 ∨ ¬ π.2.2.2.1 1 = -1) else if g 6 = 1951551059 then (¬ g 11 = 0 ∨ ¬ g 10 = 0 ∨ g 9 = 0) else False
def loS (S : aRs) : aRs := if grW (S.2.2 6) then S else (S.1, S.2.1, neG (upd S.2.2 4 (S.2.2 4 + 1)))
def frV (p : aRow) (a : Nat) : Int32 := if p.2 < a + 12 then 1 else if ¬ (0 ≤ fr p.1 a ∧ fr p.1 a ≤ 255) then 2 else if p.2 < a + 12 + (fr p.1 a).toNatClampNeg then 1 else if letsOk (fr p.1 (a + 4)) then 0 else 3
def frG (p : aRow) (a : Nat) (g : Nat → Int32) : Nat → Int32 := upd (upd g 5 (fr p.1 a)) 6 (fr p.1 (a + 4))
theorem frV0 {p : aRow} {a : Nat} (h : frV p a = 0) : ∃ l, l ≤ 255 ∧ fr p.1 a = nI l ∧ a + 12 + l ≤ p.2 ∧ letsOk (fr p.1 (a + 4)) := by
  unfold frV at h
  by_cases e1 : p.2 < a + 12
  · rw [if_pos e1] at h; exact absurd h (by decide)
  rw [if_neg e1] at h
  by_cases e2 : 0 ≤ fr p.1 a ∧ fr p.1 a ≤ 255
  · rw [if_neg (fun q => q e2)] at h
    obtain ⟨l, hl, el⟩ := len_ex e2
    rw [el, nI_clamp (by omega)] at h
    by_cases e3 : p.2 < a + 12 + l
    · rw [if_pos e3] at h; exact absurd h (by decide)
    rw [if_neg e3] at h
    by_cases e4 : letsOk (fr p.1 (a + 4))
    · exact ⟨l, hl, el, by omega, e4⟩
    · rw [if_neg e4] at h; exact absurd h (by decide)
  · rw [if_pos e2] at h; exact absurd h (by decide)
theorem okHead_n {x y u v : Int32} (h : okHead x y u v) : ∃ w hh b k : Nat, okN (w, hh, b, k) ∧ x = nI w ∧ y = nI hh ∧ u = nI b ∧ v = nI k := by
  obtain ⟨⟨h1, h2⟩, ⟨h3, h4⟩, h5⟩ := h
  obtain ⟨w, hw, rfl⟩ := nI_of2 (x := x) (M := 12) (n := 12) (by decide) (fun q => absurd (Int32.lt_of_lt_of_le q (by decide : (0 : Int32) ≤ 1)) (Int32.not_lt.mpr h1)) h2
  obtain ⟨hh, hhh, rfl⟩ := nI_of2 (x := y) (M := 12) (n := 12) (by decide) (fun q => absurd (Int32.lt_of_lt_of_le q (by decide : (0 : Int32) ≤ 1)) (Int32.not_lt.mpr h3)) h4
  have h1' : 1 ≤ w := (nI_leI (a := 1) (by omega) (by omega)).mp h1
  have h3' : 1 ≤ hh := (nI_leI (a := 1) (by omega) (by omega)).mp h3
  have hb : ∃ b k : Nat, u = nI b ∧ v = nI k ∧ (((k = 0 ∨ k = 3) ∧ (b = 1 ∨ b = 2 ∨ b = 4 ∨ b = 8)) ∨ ((k = 2 ∨ k = 4 ∨ k = 6) ∧ b = 8)) := by
    rcases h5 with ⟨hk, hb⟩ | ⟨hk, hb⟩
    · rcases hk with rfl | rfl <;> rcases hb with rfl | rfl | rfl | rfl
      · exact ⟨1, 0, rfl, rfl, by omega⟩
      · exact ⟨2, 0, rfl, rfl, by omega⟩
      · exact ⟨4, 0, rfl, rfl, by omega⟩
      · exact ⟨8, 0, rfl, rfl, by omega⟩
      · exact ⟨1, 3, rfl, rfl, by omega⟩
      · exact ⟨2, 3, rfl, rfl, by omega⟩
      · exact ⟨4, 3, rfl, rfl, by omega⟩
      · exact ⟨8, 3, rfl, rfl, by omega⟩
    · subst hb
      rcases hk with rfl | rfl | rfl
      · exact ⟨8, 2, rfl, rfl, by omega⟩
      · exact ⟨8, 4, rfl, rfl, by omega⟩
      · exact ⟨8, 6, rfl, rfl, by omega⟩
  obtain ⟨b, k, rfl, rfl, hbk⟩ := hb
  exact ⟨w, hh, b, k, ⟨⟨h1', hw⟩, ⟨h3', hhh⟩, hbk⟩, rfl, rfl, rfl, rfl⟩
abbrev hdOk (p : aRow) (a l : Nat) : Prop := l = 13 ∧ okHead (fr p.1 (a + 8)) (fr p.1 (a + 8 + 4)) (p.1 (a + 8 + 8)) (p.1 (a + 8 + 9)) ∧ p.1 (a + 8 + 10) = 0 ∧ p.1 (a + 8 + 11) = 0 ∧ p.1 (a + 8 + 12) = 0
def hdS (p : aRow) (a : Nat) (S : aRs) : aRs := ((true, piNew ((fr p.1 (a + 8)).toNatClampNeg, (fr p.1 (a + 8 + 4)).toNatClampNeg, (p.1 (a + 8 + 8)).toNatClampNeg, (p.1 (a + 8 + 9)).toNatClampNeg) S.1.2), S.2.1, upd S.2.2 8 1)
def tgS (π : aPic) (k : Nat) (v : Int32) : aPic := (π.1, π.2.1, π.2.2.1, upd π.2.2.2.1 k v, π.2.2.2.2)
abbrev plOk (l b : Nat) : Prop := l % 3 = 0 ∧ 1 ≤ l / 3 ∧ l / 3 ≤ min 64 (2 ^ b)
def plT (f : Nat → Int32) (d : Nat) : Nat → Nat → aRow → aRow
  | 0, _, c => c
  | n + 1, k, c => plT f d n (k + 1) (plA c (f (d + 3 * k)) (f (d + 3 * k + 1)) (f (d + 3 * k + 2)) 255)
def plS (p : aRow) (a l : Nat) (S : aRs) : aRs := ((S.1.1, if nI S.1.2.1.2.2.2 = 3 then (S.1.2.1, S.1.2.2.1, plT p.1 (a + 8) (l / 3) 0 S.1.2.2.2.1, S.1.2.2.2.2) else S.1.2), S.2.1, upd S.2.2 9 1)
abbrev alOk (l : Nat) (π : aPic) : Prop := nI π.1.2.2.2 = 3 ∧ 1 ≤ l ∧ l ≤ π.2.2.1.2
def alT (f : Nat → Int32) (d : Nat) : Nat → Nat → aRow → aRow
  | 0, _, c => c
  | n + 1, k, c => alT f d n (k + 1) (upd c.1 (4 * k + 3) (f (d + k)), c.2)
def alS (p : aRow) (a l : Nat) (S : aRs) : aRs := ((S.1.1, S.1.2.1, S.1.2.2.1, alT p.1 (a + 8) l 0 S.1.2.2.2.1, S.1.2.2.2.2), S.2.1, upd S.2.2 10 1)
def rwS (p : aRow) (a l : Nat) (S : aRs) : aRs := (S.1, wAs (fun i => p.1 (a + 8 + i)) 0 l S.2.1, upd (upd S.2.2 11 1) 7 (S.2.2 7 + S.2.2 5))
abbrev exK (l : Nat) (π : aPic) : Prop := l ≤ 40 ∧ π.2.2.2.2.2.2.2 < 6
def exB (f : Nat → Int32) (d k : Nat) : Nat → Nat → aExt → aExt
  | 0, _, e => e
  | n + 1, i, e => exB f d k n (i + 1) (exAddB e k (f (d + i)))
def exS (p : aRow) (a l : Nat) (S : aRs) : aRs := ((S.1.1, S.1.2.1, S.1.2.2.1, S.1.2.2.2.1, S.1.2.2.2.2.1, exB p.1 (a + 8) S.1.2.2.2.2.2.2.2.2 l 0 (exAdd S.1.2.2.2.2.2 (S.2.2 6))), S.2)
abbrev tkOk (p : aRow) (a l : Nat) (x : Int32) (π : aPic) : Prop := if x = 1229209940 then True else if x = 1229278788 then l = 0 else if x = 1229472850 then hdOk p a l else if x = 1347179589 then plOk l π.1.2.2.1 else if x = 1732332865 then (l = 4 ∧ tgOk (nI 0) (fr p.1 (a + 8))) else if x = 1883789683 then (l = 9 ∧ fr p.1 (a + 8) = fr p.1 (a + 8 + 4) ∧ p.1 (a + 8 + 8) = 1 ∧ tgOk (nI 2) (fr p.1 (a + 8))) else if x = 1934772034 then (l = 1 ∧ tgOk (nI 1) (p.1 (a + 8))) else if x = 1951551059 then alOk l π else exK l π
def tkS (p : aRow) (a l : Nat) (x : Int32) (S : aRs) : aRs := if x = 1229209940 then rwS p a l S else if x = 1229278788 then S else if x = 1229472850 then hdS p a S else if x = 1347179589 then plS p a l S else if x = 1732332865 then ((S.1.1, tgS S.1.2 0 (fr p.1 (a + 8))), S.2) else if x = 1883789683 then ((S.1.1, tgS S.1.2 2 (fr p.1 (a + 8))), S.2) else if x = 1934772034 then ((S.1.1, tgS S.1.2 1 (p.1 (a + 8))), S.2) else if x = 1951551059 then alS p a l S else exS p a l S
theorem tkS_g {p : aRow} {a l : Nat} {x : Int32} {S : aRs} {j : Nat} (hj : j < 7) : (tkS p a l x S).2.2 j = S.2.2 j := by
  unfold tkS
  repeat' split
  · exact (pk_un (by omega)).trans (pk_un (by omega))
  · rfl
  · exact pk_un (by omega)
  · exact pk_un (by omega)
  · rfl
  · rfl
  · rfl
  · exact pk_un (by omega)
  · rfl
def upS (π : aPic) (ρ : aRow) : Nat → Int32 := fun j => upV π ρ (j / 48) (j / 4 % 12) (j % 4)
theorem upS_at {π : aPic} {ρ : aRow} {x y u : Nat} (ho : okN π.1) (hx : x < π.1.1) (hu : u < chN π.1.2.2.2) : upS π ρ ((y * 12 + x) * 4 + u) = upV π ρ y x u := by
  have h1 := ho.w
  have h2 := chN_le π.1.2.2.2
  have e1 : ((y * 12 + x) * 4 + u) / 48 = y := by omega
  have e2 : ((y * 12 + x) * 4 + u) / 4 % 12 = x := by omega
  have e3 : ((y * 12 + x) * 4 + u) % 4 = u := by omega
  unfold upS
  rw [e1, e2, e3]
theorem rlH_le {d : Nat × Nat × Nat × Nat} (h : okN d) : rlN d * d.2.1 ≤ 588 := by
  have h1 := rbN_le h
  have h2 := h.w
  have h3 : rlN d ≤ 49 := by unfold rlN; omega
  exact Nat.le_trans (Nat.mul_le_mul h3 h2.2) (by decide)
abbrev enOk (S : aRs) : Prop := S.2.1.2 = rlN S.1.2.1 * S.1.2.1.2.1 ∧ upOk S.1.2 S.2.1
def enS (S : aRs) : aRs := ((S.1.1, S.1.2.1, upS S.1.2 S.2.1, S.1.2.2.2), S.2.1, upd S.2.2 0 1)
def lnN (p : aRow) (a : Nat) : Nat := (fr p.1 a).toNatClampNeg
abbrev smW (p : aRow) (a : Nat) : Prop := bN4 p.1 p.2 (nI (a + 8 + lnN p a)) = wSum p (a + 4) (lnN p a + 4)
def rcV (p : aRow) (a : Nat) (S : aRs) : Int32 := if ¬ frV p a = 0 then frV p a else if ¬ smW p a then (if grW (fr p.1 (a + 4)) then 4 else 0) else if ordW (frG p a S.2.2) S.1.2 then 5 else if unkW (fr p.1 (a + 4)) then 6 else if tkOk p a (lnN p a) (fr p.1 (a + 4)) S.1.2 then 0 else 7
def nxS (S : aRs) : aRs := (S.1, S.2.1, neG (upd S.2.2 3 (S.2.2 3 + 1)))
def rcS (p : aRow) (a : Nat) (S : aRs) : aRs := if ¬ smW p a then loS (S.1, S.2.1, frG p a S.2.2) else nxS (tkS p a (lnN p a) (fr p.1 (a + 4)) (S.1, S.2.1, frG p a S.2.2))
theorem rcV0 {p : aRow} {a : Nat} {S : aRs} (h : rcV p a S = 0) : frV p a = 0 := by
  unfold rcV at h
  by_cases e : frV p a = 0
  · exact e
  · rw [if_pos e] at h; exact h
theorem neG_g {g : Nat → Int32} {j : Nat} (hj : j < 12) : neG g j = g j := pk_un (by omega)
theorem loS_g {S : aRs} {j : Nat} (hj : j < 12) (h4 : j ≠ 4) : (loS S).2.2 j = S.2.2 j := by
  unfold loS
  by_cases e : grW (S.2.2 6)
  · rw [if_pos e]
  · rw [if_neg e]; exact (neG_g hj).trans (pk_un h4)
theorem nx_g {S : aRs} {j : Nat} (hj : j < 12) (h3 : j ≠ 3) : (nxS S).2.2 j = S.2.2 j := (neG_g hj).trans (pk_un h3)
theorem rcS_5 {p : aRow} {a : Nat} {S : aRs} : (rcS p a S).2.2 5 = fr p.1 a := by
  unfold rcS
  by_cases e : smW p a
  · rw [if_neg (fun q => q e)]; exact (nx_g (by omega) (by omega)).trans (tkS_g (by omega))
  · rw [if_pos e]; exact loS_g (by omega) (by omega)
theorem alT_2 (f : Nat → Int32) (d : Nat) : ∀ (n k : Nat) (c : aRow), (alT f d n k c).2 = c.2 := by
  intro n
  induction n with
  | zero => intro k c; rfl
  | succ n ih => intro k c; rw [alT, ih]
/-- what holds between the chunks -/
def RInv (S : aRs) (a : Nat) : Prop := (¬ S.2.2 8 = 0 → S.2.2 9 = 0 → S.1.2.2.2.1.2 = 0) ∧ S.2.2 7 = nI S.2.1.2 ∧ S.2.1.2 ≤ a
theorem ord_pal {p : aRow} {a : Nat} {S : aRs} (hI : RInv S a) (h : ¬ ordW (frG p a S.2.2) S.1.2) (e : fr p.1 (a + 4) = 1347179589) : S.1.2.2.2.1.2 = 0 := by
  have e6 : frG p a S.2.2 6 = 1347179589 := e
  by_cases h8 : S.2.2 8 = 0
  · refine absurd ?_ h
    rw [ordW, if_pos (show frG p a S.2.2 8 = 0 from h8), e6]
    decide
  · refine hI.1 h8 (Decidable.not_not.mp fun h9 => h ?_)
    rw [ordW, if_neg (show ¬ frG p a S.2.2 8 = 0 from h8), e6, if_neg (by decide), if_neg (by decide), if_neg (by decide), if_pos rfl]
    exact Or.inr (Or.inl h9)
def avS (S : aRs) : aRs := (S.1, S.2.1, upd S.2.2 2 (S.2.2 2 + (12 + S.2.2 5)))
def rdL (p : aRow) : Nat → Nat → aRs → Int32 × Nat × aRs
  | 0, a, S => (0, a, S)
  | n + 1, a, S => if ¬ rcV p a S = 0 then (rcV p a S, a, S) else if (rcS p a S).2.2 6 = 1229278788 then (if enOk (rcS p a S) then (0, a, enS (rcS p a S)) else (8, a, S)) else rdL p n (a + 12 + lnN p a) (avS ((rcS p a S).1, (rcS p a S).2.1, upd (rcS p a S).2.2 1 0))
def rdAll (p : aRow) (S : aRs) : Int32 × Nat × aRs := if hasM p then rdL p 2000 8 (S.1, (S.2.1.1, 0), begG p S.2.2) else (1, 0, S)
def rdE (F : Int32 × Nat × aRs) (S : aRs) : Prop := S.2.2 1 = F.1 ∧ (¬ F.1 = 0 → S.2.2 2 = nI F.2.1 ∧ S.2.2 0 = 0) ∧ (F.1 = 0 → S.2.2 0 = 1 ∧ S.1 = F.2.2.1 ∧ S.2.2 3 = F.2.2.2.2 3 ∧ S.2.2 4 = F.2.2.2.2 4)
theorem rcS_inv {p : aRow} {a : Nat} {S : aRs} (hI : RInv S a) (h : rcV p a S = 0) : RInv (rcS p a S) (a + 12 + lnN p a) := by
  obtain ⟨l, hl, el, hf, -⟩ := frV0 (rcV0 h)
  have ln : lnN p a = l := by rw [lnN, el, nI_clamp (by omega)]
  rw [ln]
  unfold rcS
  by_cases e : smW p a
  · rw [if_neg (fun q => q e), ln]
    have key : RInv (tkS p a l (fr p.1 (a + 4)) (S.1, S.2.1, frG p a S.2.2)) (a + 12 + l) := by
      have h0 : RInv (S.1, S.2.1, frG p a S.2.2) (a + 12 + l) := ⟨hI.1, hI.2.1, by have := hI.2.2; show S.2.1.2 ≤ _; omega⟩
      unfold tkS
      repeat' split
      · refine ⟨h0.1, ?_, ?_⟩
        · show S.2.2 7 + fr p.1 a = nI (wAs _ 0 l S.2.1).2
          rw [wAs_2, hI.2.1, el, nI_add]
        · show (wAs _ 0 l S.2.1).2 ≤ _
          rw [wAs_2]
          have := hI.2.2
          omega
      · exact h0
      · exact ⟨fun _ _ => rfl, h0.2⟩
      · exact ⟨fun _ q => absurd q (by show ¬ (1 : Int32) = 0; decide), h0.2⟩
      · exact h0
      · exact h0
      · exact h0
      · refine ⟨fun q1 q2 => ?_, h0.2⟩
        show (alT p.1 (a + 8) l 0 S.1.2.2.2.1).2 = 0
        rw [alT_2]
        exact hI.1 q1 q2
      · exact h0
    exact key
  · rw [if_pos e]
    unfold loS
    by_cases e2 : grW ((S.1, S.2.1, frG p a S.2.2).2.2 6)
    · rw [if_pos e2]; exact ⟨hI.1, hI.2.1, by have := hI.2.2; show S.2.1.2 ≤ _; omega⟩
    · rw [if_neg e2]; exact ⟨hI.1, hI.2.1, by have := hI.2.2; show S.2.1.2 ≤ _; omega⟩
set_option maxHeartbeats 4000000 in
theorem a_Reading_noteRowsEnd {E : pmEv} {h : pmH} {z : Option Nat} {r : Nat} {p : aRow} {S : aRs} (hR : ReA h r p S) : Call E mReading_noteRowsEnd [.ref r] h z 0 0 (RetX (none) (fun h' => ReA h' r p (S.1, S.2.1, neG S.2.2) ∧ Sm h h' r 15) z) := by
  have hs : Sm h h r 15 := Sm.refl _ _ _
  refine call_of (L := [some (.ref r)]) ok_mReading_noteRowsEnd (Nat.le_of_ble_eq_true rfl) ?_
  refine go_aload_n dReading_noteRowsEnd_0 rfl ?_
  refine go_aload_n dReading_noteRowsEnd_1 rfl ?_
  refine go_getf dReading_noteRowsEnd_2 qf_Reading_87 hR.1 rfl ?_
  refine go_if_eq (tgt := 21) dReading_noteRowsEnd_5 (fun c1 => ?_) (fun c1 => ?_)
  · refine go_iconst (v := 0) dReading_noteRowsEnd_21 (by decide) ?_
    refine go_putf dReading_noteRowsEnd_22 qf_Reading_90 pw_4_15 hR.1 rfl rfl ?_
    refine go_nm (fun hnk1 enk1 => ?_)
    have gsk1 : Sm h hnk1 r 1 := by rw [enk1]; exact (Sm.put' (Sm.refl _ _ _) _ (by omega) (by omega))
    have hRk1 := ReA.put (g := upd S.2.2 12 _) hR ((congrFun enk1 r).trans (pmU_s _ _ _)) gsk1
    have sk1 := hs.trans (gsk1.sub (a := r) (n := 15) (by omega) (by omega))
    refine go_vret dReading_noteRowsEnd_25 rfl ?_ (Nat.le_of_ble_eq_true rfl) (Nat.le_of_ble_eq_true rfl)
    exact retX ⟨by rw [neG, if_neg (fun q => q.1 c1)]; exact hRk1, sk1⟩
  · refine go_aload_n dReading_noteRowsEnd_8 rfl ?_
    refine go_getf dReading_noteRowsEnd_9 qf_Reading_47 hR.1 rfl ?_
    refine go_ldc dReading_noteRowsEnd_12 qc_Reading_132 ?_
    refine go_icmp_eq (tgt := 21) dReading_noteRowsEnd_14 (fun c2 => ?_) (fun c2 => ?_)
    · refine go_iconst (v := 0) dReading_noteRowsEnd_21 (by decide) ?_
      refine go_putf dReading_noteRowsEnd_22 qf_Reading_90 pw_4_15 hR.1 rfl rfl ?_
      refine go_nm (fun hnk2 enk2 => ?_)
      have gsk2 : Sm h hnk2 r 1 := by rw [enk2]; exact (Sm.put' (Sm.refl _ _ _) _ (by omega) (by omega))
      have hRk2 := ReA.put (g := upd S.2.2 12 _) hR ((congrFun enk2 r).trans (pmU_s _ _ _)) gsk2
      have sk2 := hs.trans (gsk2.sub (a := r) (n := 15) (by omega) (by omega))
      refine go_vret dReading_noteRowsEnd_25 rfl ?_ (Nat.le_of_ble_eq_true rfl) (Nat.le_of_ble_eq_true rfl)
      exact retX ⟨by rw [neG, if_neg (fun q => q.2 c2)]; exact hRk2, sk2⟩
    · refine go_iconst (v := 1) dReading_noteRowsEnd_17 (by decide) ?_
      refine go_goto (tgt := 22) dReading_noteRowsEnd_18 ?_
      refine go_putf dReading_noteRowsEnd_22 qf_Reading_90 pw_4_15 hR.1 rfl rfl ?_
      refine go_nm (fun hnk3 enk3 => ?_)
      have gsk3 : Sm h hnk3 r 1 := by rw [enk3]; exact (Sm.put' (Sm.refl _ _ _) _ (by omega) (by omega))
      have hRk3 := ReA.put (g := upd S.2.2 12 _) hR ((congrFun enk3 r).trans (pmU_s _ _ _)) gsk3
      have sk3 := hs.trans (gsk3.sub (a := r) (n := 15) (by omega) (by omega))
      refine go_vret dReading_noteRowsEnd_25 rfl ?_ (Nat.le_of_ble_eq_true rfl) (Nat.le_of_ble_eq_true rfl)
      exact retX ⟨by rw [neG, if_pos ⟨c1, c2⟩]; exact hRk3, sk3⟩
set_option maxHeartbeats 4000000 in
theorem a_Reading_begin {E : pmEv} {h : pmH} {z : Option Nat} {r : Nat} {p : aRow} {S : aRs} (hS : SA E h r) (hN : p.2 ≤ 2000) (hR : ReA h r p S) : Call E mReading_begin [.ref r] h z 0 0 (RetX (none) (fun h' => ReA h' r p (S.1, (S.2.1.1, 0), begG p S.2.2) ∧ Sm h h' r 15) z) := by
  have hs : Sm h h r 15 := Sm.refl _ _ _
  refine call_of (L := [some (.ref r), none]) ok_mReading_begin (Nat.le_of_ble_eq_true rfl) ?_
  refine go_aload_n dReading_begin_0 rfl ?_
  refine go_getf dReading_begin_1 qf_Reading_14 hR.1 rfl ?_
  refine go_virtP dReading_begin_4 ok_mBytes_hasBeginning im_mBytes_hasBeginning se_mBytes_hasBeginning qm_Reading_62 hR.2.1.1 (a_Bytes_hasBeginning (hS.le (by omega)) hR.2.1 hN) ?_ (hnp := np_mBytes_hasBeginning)
  refine go_istore_n dReading_begin_7 ?_
  refine go_aload_n dReading_begin_8 rfl ?_
  refine go_iconst (v := 0) dReading_begin_9 (by decide) ?_
  refine go_putf dReading_begin_10 qf_Reading_39 pw_4_3 hR.1 rfl rfl ?_
  refine go_aload_n dReading_begin_13 rfl ?_
  refine go_iload_n dReading_begin_14 rfl ?_
  refine go_ifeq_b (tgt := 22) dReading_begin_15 (fun c1 => ?_) (fun c1 => ?_)
  · refine go_iconst (v := 1) dReading_begin_22 (by decide) ?_
    refine go_putf dReading_begin_23 qf_Reading_35 pw_4_4 (pmU_s _ _ _) rfl rfl ?_
    refine go_aload_n dReading_begin_26 rfl ?_
    refine go_iload_n dReading_begin_27 rfl ?_
    refine go_ifeq_b (tgt := 36) dReading_begin_28 (fun c2 => ?_) (fun c2 => ?_)
    · refine go_iconst (v := 0) dReading_begin_36 (by decide) ?_
      refine go_putf dReading_begin_37 qf_Reading_56 pw_4_5 (pmU_s _ _ _) rfl rfl ?_
      refine go_aload_n dReading_begin_40 rfl ?_
      refine go_iconst (v := 0) dReading_begin_41 (by decide) ?_
      refine go_putf dReading_begin_42 qf_Reading_66 pw_4_6 (pmU_s _ _ _) rfl rfl ?_
      refine go_aload_n dReading_begin_45 rfl ?_
      refine go_iconst (v := 0) dReading_begin_46 (by decide) ?_
      refine go_putf dReading_begin_47 qf_Reading_69 pw_4_7 (pmU_s _ _ _) rfl rfl ?_
      refine go_aload_n dReading_begin_50 rfl ?_
      refine go_iconst (v := 0) dReading_begin_51 (by decide) ?_
      refine go_putf dReading_begin_52 qf_Reading_72 pw_4_10 (pmU_s _ _ _) rfl rfl ?_
      refine go_nm (fun hnk1 enk1 => ?_)
      have gsk1 : Sm h hnk1 r 1 := by rw [enk1]; exact (Sm.put' (Sm.put' (Sm.put' (Sm.put' (Sm.put' (Sm.put' (Sm.refl _ _ _) _ (by omega) (by omega)) _ (by omega) (by omega)) _ (by omega) (by omega)) _ (by omega) (by omega)) _ (by omega) (by omega)) _ (by omega) (by omega))
      have hRk1 := ReA.put (g := upd (upd (upd (upd (upd (upd S.2.2 0 0) 1 _) 2 _) 3 0) 4 0) 7 0) hR ((congrFun enk1 r).trans (pmU_s _ _ _)) gsk1
      have sk1 := hs.trans (gsk1.sub (a := r) (n := 15) (by omega) (by omega))
      refine go_aload_n dReading_begin_55 rfl ?_
      refine go_getf dReading_begin_56 qf_Reading_29 hRk1.1 rfl ?_
      refine go_virtX dReading_begin_59 ok_mBytes_clear im_mBytes_clear se_mBytes_clear qm_Reading_75 hRk1.2.2.2.1 (a_Bytes_clear hRk1.2.2.2) (fun hx3 d3 q3 => ?_) (hnp := np_mBytes_clear)
      have hR3 := hRk1.row q3.1 q3.2
      have s3 := sk1.trans (q3.2.sub (by omega) (by omega))
      refine go_aload_n dReading_begin_62 rfl ?_
      refine go_iconst (v := 0) dReading_begin_63 (by decide) ?_
      refine go_putf dReading_begin_64 qf_Reading_78 pw_4_11 hR3.1 rfl rfl ?_
      refine go_aload_n dReading_begin_67 rfl ?_
      refine go_iconst (v := 0) dReading_begin_68 (by decide) ?_
      refine go_putf dReading_begin_69 qf_Reading_81 pw_4_12 (pmU_s _ _ _) rfl rfl ?_
      refine go_aload_n dReading_begin_72 rfl ?_
      refine go_iconst (v := 0) dReading_begin_73 (by decide) ?_
      refine go_putf dReading_begin_74 qf_Reading_84 pw_4_13 (pmU_s _ _ _) rfl rfl ?_
      refine go_aload_n dReading_begin_77 rfl ?_
      refine go_iconst (v := 0) dReading_begin_78 (by decide) ?_
      refine go_putf dReading_begin_79 qf_Reading_87 pw_4_14 (pmU_s _ _ _) rfl rfl ?_
      refine go_aload_n dReading_begin_82 rfl ?_
      refine go_iconst (v := 0) dReading_begin_83 (by decide) ?_
      refine go_putf dReading_begin_84 qf_Reading_90 pw_4_15 (pmU_s _ _ _) rfl rfl ?_
      refine go_nm (fun hnk2 enk2 => ?_)
      have gsk2 : Sm hx3 hnk2 r 1 := by rw [enk2]; exact (Sm.put' (Sm.put' (Sm.put' (Sm.put' (Sm.put' (Sm.refl _ _ _) _ (by omega) (by omega)) _ (by omega) (by omega)) _ (by omega) (by omega)) _ (by omega) (by omega)) _ (by omega) (by omega))
      have hRk2 := ReA.put (g := upd (upd (upd (upd (upd _ 8 0) 9 0) 10 0) 11 0) 12 0) hR3 ((congrFun enk2 r).trans (pmU_s _ _ _)) gsk2
      have sk2 := s3.trans (gsk2.sub (a := r) (n := 15) (by omega) (by omega))
      refine go_vret dReading_begin_87 rfl ?_ (Nat.le_of_ble_eq_true rfl) (Nat.le_of_ble_eq_true rfl)
      exact retX ⟨by rw [begG, if_neg c1]; exact hRk2, sk2⟩
    · refine go_bipush (v := 8) dReading_begin_31 (by decide) ?_
      refine go_goto (tgt := 37) dReading_begin_33 ?_
      refine go_putf dReading_begin_37 qf_Reading_56 pw_4_5 (pmU_s _ _ _) rfl rfl ?_
      refine go_aload_n dReading_begin_40 rfl ?_
      refine go_iconst (v := 0) dReading_begin_41 (by decide) ?_
      refine go_putf dReading_begin_42 qf_Reading_66 pw_4_6 (pmU_s _ _ _) rfl rfl ?_
      refine go_aload_n dReading_begin_45 rfl ?_
      refine go_iconst (v := 0) dReading_begin_46 (by decide) ?_
      refine go_putf dReading_begin_47 qf_Reading_69 pw_4_7 (pmU_s _ _ _) rfl rfl ?_
      refine go_aload_n dReading_begin_50 rfl ?_
      refine go_iconst (v := 0) dReading_begin_51 (by decide) ?_
      refine go_putf dReading_begin_52 qf_Reading_72 pw_4_10 (pmU_s _ _ _) rfl rfl ?_
      refine go_nm (fun hnk3 enk3 => ?_)
      have gsk3 : Sm h hnk3 r 1 := by rw [enk3]; exact (Sm.put' (Sm.put' (Sm.put' (Sm.put' (Sm.put' (Sm.put' (Sm.refl _ _ _) _ (by omega) (by omega)) _ (by omega) (by omega)) _ (by omega) (by omega)) _ (by omega) (by omega)) _ (by omega) (by omega)) _ (by omega) (by omega))
      have hRk3 := ReA.put (g := upd (upd (upd (upd (upd (upd S.2.2 0 0) 1 _) 2 _) 3 0) 4 0) 7 0) hR ((congrFun enk3 r).trans (pmU_s _ _ _)) gsk3
      have sk3 := hs.trans (gsk3.sub (a := r) (n := 15) (by omega) (by omega))
      refine go_aload_n dReading_begin_55 rfl ?_
      refine go_getf dReading_begin_56 qf_Reading_29 hRk3.1 rfl ?_
      refine go_virtX dReading_begin_59 ok_mBytes_clear im_mBytes_clear se_mBytes_clear qm_Reading_75 hRk3.2.2.2.1 (a_Bytes_clear hRk3.2.2.2) (fun hx3 d3 q3 => ?_) (hnp := np_mBytes_clear)
      have hR3 := hRk3.row q3.1 q3.2
      have s3 := sk3.trans (q3.2.sub (by omega) (by omega))
      refine go_aload_n dReading_begin_62 rfl ?_
      refine go_iconst (v := 0) dReading_begin_63 (by decide) ?_
      refine go_putf dReading_begin_64 qf_Reading_78 pw_4_11 hR3.1 rfl rfl ?_
      refine go_aload_n dReading_begin_67 rfl ?_
      refine go_iconst (v := 0) dReading_begin_68 (by decide) ?_
      refine go_putf dReading_begin_69 qf_Reading_81 pw_4_12 (pmU_s _ _ _) rfl rfl ?_
      refine go_aload_n dReading_begin_72 rfl ?_
      refine go_iconst (v := 0) dReading_begin_73 (by decide) ?_
      refine go_putf dReading_begin_74 qf_Reading_84 pw_4_13 (pmU_s _ _ _) rfl rfl ?_
      refine go_aload_n dReading_begin_77 rfl ?_
      refine go_iconst (v := 0) dReading_begin_78 (by decide) ?_
      refine go_putf dReading_begin_79 qf_Reading_87 pw_4_14 (pmU_s _ _ _) rfl rfl ?_
      refine go_aload_n dReading_begin_82 rfl ?_
      refine go_iconst (v := 0) dReading_begin_83 (by decide) ?_
      refine go_putf dReading_begin_84 qf_Reading_90 pw_4_15 (pmU_s _ _ _) rfl rfl ?_
      refine go_nm (fun hnk4 enk4 => ?_)
      have gsk4 : Sm hx3 hnk4 r 1 := by rw [enk4]; exact (Sm.put' (Sm.put' (Sm.put' (Sm.put' (Sm.put' (Sm.refl _ _ _) _ (by omega) (by omega)) _ (by omega) (by omega)) _ (by omega) (by omega)) _ (by omega) (by omega)) _ (by omega) (by omega))
      have hRk4 := ReA.put (g := upd (upd (upd (upd (upd _ 8 0) 9 0) 10 0) 11 0) 12 0) hR3 ((congrFun enk4 r).trans (pmU_s _ _ _)) gsk4
      have sk4 := s3.trans (gsk4.sub (a := r) (n := 15) (by omega) (by omega))
      refine go_vret dReading_begin_87 rfl ?_ (Nat.le_of_ble_eq_true rfl) (Nat.le_of_ble_eq_true rfl)
      exact absurd c2 c1
  · refine go_iconst (v := 0) dReading_begin_18 (by decide) ?_
    refine go_goto (tgt := 23) dReading_begin_19 ?_
    refine go_putf dReading_begin_23 qf_Reading_35 pw_4_4 (pmU_s _ _ _) rfl rfl ?_
    refine go_aload_n dReading_begin_26 rfl ?_
    refine go_iload_n dReading_begin_27 rfl ?_
    refine go_ifeq_b (tgt := 36) dReading_begin_28 (fun c2 => ?_) (fun c2 => ?_)
    · refine go_iconst (v := 0) dReading_begin_36 (by decide) ?_
      refine go_putf dReading_begin_37 qf_Reading_56 pw_4_5 (pmU_s _ _ _) rfl rfl ?_
      refine go_aload_n dReading_begin_40 rfl ?_
      refine go_iconst (v := 0) dReading_begin_41 (by decide) ?_
      refine go_putf dReading_begin_42 qf_Reading_66 pw_4_6 (pmU_s _ _ _) rfl rfl ?_
      refine go_aload_n dReading_begin_45 rfl ?_
      refine go_iconst (v := 0) dReading_begin_46 (by decide) ?_
      refine go_putf dReading_begin_47 qf_Reading_69 pw_4_7 (pmU_s _ _ _) rfl rfl ?_
      refine go_aload_n dReading_begin_50 rfl ?_
      refine go_iconst (v := 0) dReading_begin_51 (by decide) ?_
      refine go_putf dReading_begin_52 qf_Reading_72 pw_4_10 (pmU_s _ _ _) rfl rfl ?_
      refine go_nm (fun hnk5 enk5 => ?_)
      have gsk5 : Sm h hnk5 r 1 := by rw [enk5]; exact (Sm.put' (Sm.put' (Sm.put' (Sm.put' (Sm.put' (Sm.put' (Sm.refl _ _ _) _ (by omega) (by omega)) _ (by omega) (by omega)) _ (by omega) (by omega)) _ (by omega) (by omega)) _ (by omega) (by omega)) _ (by omega) (by omega))
      have hRk5 := ReA.put (g := upd (upd (upd (upd (upd (upd S.2.2 0 0) 1 _) 2 _) 3 0) 4 0) 7 0) hR ((congrFun enk5 r).trans (pmU_s _ _ _)) gsk5
      have sk5 := hs.trans (gsk5.sub (a := r) (n := 15) (by omega) (by omega))
      refine go_aload_n dReading_begin_55 rfl ?_
      refine go_getf dReading_begin_56 qf_Reading_29 hRk5.1 rfl ?_
      refine go_virtX dReading_begin_59 ok_mBytes_clear im_mBytes_clear se_mBytes_clear qm_Reading_75 hRk5.2.2.2.1 (a_Bytes_clear hRk5.2.2.2) (fun hx3 d3 q3 => ?_) (hnp := np_mBytes_clear)
      have hR3 := hRk5.row q3.1 q3.2
      have s3 := sk5.trans (q3.2.sub (by omega) (by omega))
      refine go_aload_n dReading_begin_62 rfl ?_
      refine go_iconst (v := 0) dReading_begin_63 (by decide) ?_
      refine go_putf dReading_begin_64 qf_Reading_78 pw_4_11 hR3.1 rfl rfl ?_
      refine go_aload_n dReading_begin_67 rfl ?_
      refine go_iconst (v := 0) dReading_begin_68 (by decide) ?_
      refine go_putf dReading_begin_69 qf_Reading_81 pw_4_12 (pmU_s _ _ _) rfl rfl ?_
      refine go_aload_n dReading_begin_72 rfl ?_
      refine go_iconst (v := 0) dReading_begin_73 (by decide) ?_
      refine go_putf dReading_begin_74 qf_Reading_84 pw_4_13 (pmU_s _ _ _) rfl rfl ?_
      refine go_aload_n dReading_begin_77 rfl ?_
      refine go_iconst (v := 0) dReading_begin_78 (by decide) ?_
      refine go_putf dReading_begin_79 qf_Reading_87 pw_4_14 (pmU_s _ _ _) rfl rfl ?_
      refine go_aload_n dReading_begin_82 rfl ?_
      refine go_iconst (v := 0) dReading_begin_83 (by decide) ?_
      refine go_putf dReading_begin_84 qf_Reading_90 pw_4_15 (pmU_s _ _ _) rfl rfl ?_
      refine go_nm (fun hnk6 enk6 => ?_)
      have gsk6 : Sm hx3 hnk6 r 1 := by rw [enk6]; exact (Sm.put' (Sm.put' (Sm.put' (Sm.put' (Sm.put' (Sm.refl _ _ _) _ (by omega) (by omega)) _ (by omega) (by omega)) _ (by omega) (by omega)) _ (by omega) (by omega)) _ (by omega) (by omega))
      have hRk6 := ReA.put (g := upd (upd (upd (upd (upd _ 8 0) 9 0) 10 0) 11 0) 12 0) hR3 ((congrFun enk6 r).trans (pmU_s _ _ _)) gsk6
      have sk6 := s3.trans (gsk6.sub (a := r) (n := 15) (by omega) (by omega))
      refine go_vret dReading_begin_87 rfl ?_ (Nat.le_of_ble_eq_true rfl) (Nat.le_of_ble_eq_true rfl)
      exact absurd c1 c2
    · refine go_bipush (v := 8) dReading_begin_31 (by decide) ?_
      refine go_goto (tgt := 37) dReading_begin_33 ?_
      refine go_putf dReading_begin_37 qf_Reading_56 pw_4_5 (pmU_s _ _ _) rfl rfl ?_
      refine go_aload_n dReading_begin_40 rfl ?_
      refine go_iconst (v := 0) dReading_begin_41 (by decide) ?_
      refine go_putf dReading_begin_42 qf_Reading_66 pw_4_6 (pmU_s _ _ _) rfl rfl ?_
      refine go_aload_n dReading_begin_45 rfl ?_
      refine go_iconst (v := 0) dReading_begin_46 (by decide) ?_
      refine go_putf dReading_begin_47 qf_Reading_69 pw_4_7 (pmU_s _ _ _) rfl rfl ?_
      refine go_aload_n dReading_begin_50 rfl ?_
      refine go_iconst (v := 0) dReading_begin_51 (by decide) ?_
      refine go_putf dReading_begin_52 qf_Reading_72 pw_4_10 (pmU_s _ _ _) rfl rfl ?_
      refine go_nm (fun hnk7 enk7 => ?_)
      have gsk7 : Sm h hnk7 r 1 := by rw [enk7]; exact (Sm.put' (Sm.put' (Sm.put' (Sm.put' (Sm.put' (Sm.put' (Sm.refl _ _ _) _ (by omega) (by omega)) _ (by omega) (by omega)) _ (by omega) (by omega)) _ (by omega) (by omega)) _ (by omega) (by omega)) _ (by omega) (by omega))
      have hRk7 := ReA.put (g := upd (upd (upd (upd (upd (upd S.2.2 0 0) 1 _) 2 _) 3 0) 4 0) 7 0) hR ((congrFun enk7 r).trans (pmU_s _ _ _)) gsk7
      have sk7 := hs.trans (gsk7.sub (a := r) (n := 15) (by omega) (by omega))
      refine go_aload_n dReading_begin_55 rfl ?_
      refine go_getf dReading_begin_56 qf_Reading_29 hRk7.1 rfl ?_
      refine go_virtX dReading_begin_59 ok_mBytes_clear im_mBytes_clear se_mBytes_clear qm_Reading_75 hRk7.2.2.2.1 (a_Bytes_clear hRk7.2.2.2) (fun hx3 d3 q3 => ?_) (hnp := np_mBytes_clear)
      have hR3 := hRk7.row q3.1 q3.2
      have s3 := sk7.trans (q3.2.sub (by omega) (by omega))
      refine go_aload_n dReading_begin_62 rfl ?_
      refine go_iconst (v := 0) dReading_begin_63 (by decide) ?_
      refine go_putf dReading_begin_64 qf_Reading_78 pw_4_11 hR3.1 rfl rfl ?_
      refine go_aload_n dReading_begin_67 rfl ?_
      refine go_iconst (v := 0) dReading_begin_68 (by decide) ?_
      refine go_putf dReading_begin_69 qf_Reading_81 pw_4_12 (pmU_s _ _ _) rfl rfl ?_
      refine go_aload_n dReading_begin_72 rfl ?_
      refine go_iconst (v := 0) dReading_begin_73 (by decide) ?_
      refine go_putf dReading_begin_74 qf_Reading_84 pw_4_13 (pmU_s _ _ _) rfl rfl ?_
      refine go_aload_n dReading_begin_77 rfl ?_
      refine go_iconst (v := 0) dReading_begin_78 (by decide) ?_
      refine go_putf dReading_begin_79 qf_Reading_87 pw_4_14 (pmU_s _ _ _) rfl rfl ?_
      refine go_aload_n dReading_begin_82 rfl ?_
      refine go_iconst (v := 0) dReading_begin_83 (by decide) ?_
      refine go_putf dReading_begin_84 qf_Reading_90 pw_4_15 (pmU_s _ _ _) rfl rfl ?_
      refine go_nm (fun hnk8 enk8 => ?_)
      have gsk8 : Sm hx3 hnk8 r 1 := by rw [enk8]; exact (Sm.put' (Sm.put' (Sm.put' (Sm.put' (Sm.put' (Sm.refl _ _ _) _ (by omega) (by omega)) _ (by omega) (by omega)) _ (by omega) (by omega)) _ (by omega) (by omega)) _ (by omega) (by omega))
      have hRk8 := ReA.put (g := upd (upd (upd (upd (upd _ 8 0) 9 0) 10 0) 11 0) 12 0) hR3 ((congrFun enk8 r).trans (pmU_s _ _ _)) gsk8
      have sk8 := s3.trans (gsk8.sub (a := r) (n := 15) (by omega) (by omega))
      refine go_vret dReading_begin_87 rfl ?_ (Nat.le_of_ble_eq_true rfl) (Nat.le_of_ble_eq_true rfl)
      exact retX ⟨by rw [begG, if_pos c1]; exact hRk8, sk8⟩
set_option maxHeartbeats 4000000 in
theorem a_Reading_isGreyKind {E : pmEv} {h : pmH} {z : Option Nat} {r : Nat} {p : aRow} {S : aRs} (hR : ReA h r p S) : Call E mReading_isGreyKind [.ref r] h z 0 0 (Ret (some (.int (bI (nI S.1.2.1.2.2.2 = 0 ∨ nI S.1.2.1.2.2.2 = 4)))) (h, z, false)) := by
  refine call_of (L := [some (.ref r)]) ok_mReading_isGreyKind (Nat.le_of_ble_eq_true rfl) ?_
  refine go_aload_n dReading_isGreyKind_0 rfl ?_
  refine go_getf dReading_isGreyKind_1 qf_Reading_23 hR.1 rfl ?_
  refine go_getf dReading_isGreyKind_4 qf_Reading_146 hR.2.2.1.1 rfl ?_
  refine go_if_eq (tgt := 21) dReading_isGreyKind_7 (fun c1 => ?_) (fun c1 => ?_)
  · refine go_iconst (v := 1) dReading_isGreyKind_21 (by decide) ?_
    refine go_goto (tgt := 26) dReading_isGreyKind_22 ?_
    refine go_iret dReading_isGreyKind_26 rfl rfl ?_ (Nat.le_of_ble_eq_true rfl) (Nat.le_of_ble_eq_true rfl)
    refine ret_bt ?_
    simp [c1]
  · refine go_aload_n dReading_isGreyKind_10 rfl ?_
    refine go_getf dReading_isGreyKind_11 qf_Reading_23 hR.1 rfl ?_
    refine go_getf dReading_isGreyKind_14 qf_Reading_146 hR.2.2.1.1 rfl ?_
    refine go_iconst (v := 4) dReading_isGreyKind_17 (by decide) ?_
    refine go_icmp_ne (tgt := 25) dReading_isGreyKind_18 (fun c2 => ?_) (fun c2 => ?_)
    · refine go_iconst (v := 0) dReading_isGreyKind_25 (by decide) ?_
      refine go_iret dReading_isGreyKind_26 rfl rfl ?_ (Nat.le_of_ble_eq_true rfl) (Nat.le_of_ble_eq_true rfl)
      refine ret_bf ?_
      simp [c1, c2]
    · refine go_iconst (v := 1) dReading_isGreyKind_21 (by decide) ?_
      refine go_goto (tgt := 26) dReading_isGreyKind_22 ?_
      refine go_iret dReading_isGreyKind_26 rfl rfl ?_ (Nat.le_of_ble_eq_true rfl) (Nat.le_of_ble_eq_true rfl)
      refine ret_bt ?_
      simp [c1, c2]
set_option maxHeartbeats 4000000 in
theorem a_Reading_isUnknown {E : pmEv} {h : pmH} {z : Option Nat} {r : Nat} {p : aRow} {S : aRs} (hR : ReA h r p S) : Call E mReading_isUnknown [.ref r] h z 0 0 (Ret (some (.int (bI (unkW (S.2.2 6))))) (h, z, false)) := by
  refine call_of (L := [some (.ref r)]) ok_mReading_isUnknown (Nat.le_of_ble_eq_true rfl) ?_
  refine go_aload_n dReading_isUnknown_0 rfl ?_
  refine go_getf dReading_isUnknown_1 qf_Reading_47 hR.1 rfl ?_
  refine go_statP dReading_isUnknown_4 ok_mLetters_firstIsGreat st_mLetters_firstIsGreat qm_Reading_129 c_Letters_firstIsGreat ?_ (hnp := np_mLetters_firstIsGreat)
  refine go_ifeq_b (tgt := 50) dReading_isUnknown_7 (fun c1 => ?_) (fun c1 => ?_)
  · refine go_iconst (v := 0) dReading_isUnknown_50 (by decide) ?_
    refine go_iret dReading_isUnknown_51 rfl rfl ?_ (Nat.le_of_ble_eq_true rfl) (Nat.le_of_ble_eq_true rfl)
    exact ret_bf (fun q => c1 q.1)
  · refine go_aload_n dReading_isUnknown_10 rfl ?_
    refine go_getf dReading_isUnknown_11 qf_Reading_47 hR.1 rfl ?_
    refine go_ldc dReading_isUnknown_14 qc_Reading_133 ?_
    refine go_icmp_eq (tgt := 50) dReading_isUnknown_16 (fun c2 => ?_) (fun c2 => ?_)
    · refine go_iconst (v := 0) dReading_isUnknown_50 (by decide) ?_
      refine go_iret dReading_isUnknown_51 rfl rfl ?_ (Nat.le_of_ble_eq_true rfl) (Nat.le_of_ble_eq_true rfl)
      exact ret_bf (fun q => q.2.1 c2)
    · refine go_aload_n dReading_isUnknown_19 rfl ?_
      refine go_getf dReading_isUnknown_20 qf_Reading_47 hR.1 rfl ?_
      refine go_ldc dReading_isUnknown_23 qc_Reading_151 ?_
      refine go_icmp_eq (tgt := 50) dReading_isUnknown_25 (fun c3 => ?_) (fun c3 => ?_)
      · refine go_iconst (v := 0) dReading_isUnknown_50 (by decide) ?_
        refine go_iret dReading_isUnknown_51 rfl rfl ?_ (Nat.le_of_ble_eq_true rfl) (Nat.le_of_ble_eq_true rfl)
        exact ret_bf (fun q => q.2.2.1 c3)
      · refine go_aload_n dReading_isUnknown_28 rfl ?_
        refine go_getf dReading_isUnknown_29 qf_Reading_47 hR.1 rfl ?_
        refine go_ldc dReading_isUnknown_32 qc_Reading_132 ?_
        refine go_icmp_eq (tgt := 50) dReading_isUnknown_34 (fun c4 => ?_) (fun c4 => ?_)
        · refine go_iconst (v := 0) dReading_isUnknown_50 (by decide) ?_
          refine go_iret dReading_isUnknown_51 rfl rfl ?_ (Nat.le_of_ble_eq_true rfl) (Nat.le_of_ble_eq_true rfl)
          exact ret_bf (fun q => q.2.2.2.1 c4)
        · refine go_aload_n dReading_isUnknown_37 rfl ?_
          refine go_getf dReading_isUnknown_38 qf_Reading_47 hR.1 rfl ?_
          refine go_ldc dReading_isUnknown_41 qc_Reading_52 ?_
          refine go_icmp_eq (tgt := 50) dReading_isUnknown_43 (fun c5 => ?_) (fun c5 => ?_)
          · refine go_iconst (v := 0) dReading_isUnknown_50 (by decide) ?_
            refine go_iret dReading_isUnknown_51 rfl rfl ?_ (Nat.le_of_ble_eq_true rfl) (Nat.le_of_ble_eq_true rfl)
            exact ret_bf (fun q => q.2.2.2.2 c5)
          · refine go_iconst (v := 1) dReading_isUnknown_46 (by decide) ?_
            refine go_goto (tgt := 51) dReading_isUnknown_47 ?_
            refine go_iret dReading_isUnknown_51 rfl rfl ?_ (Nat.le_of_ble_eq_true rfl) (Nat.le_of_ble_eq_true rfl)
            exact ret_bt ⟨c1, c2, c3, c4, c5⟩
set_option maxHeartbeats 4000000 in
theorem a_Reading_orderIsWrong {E : pmEv} {h : pmH} {z : Option Nat} {r : Nat} {p : aRow} {S : aRs} (hR : ReA h r p S) : Call E mReading_orderIsWrong [.ref r] h z 0 0 (Ret (some (.int (bI (ordW S.2.2 S.1.2)))) (h, z, false)) := by
  refine call_of (L := [some (.ref r)]) ok_mReading_orderIsWrong (Nat.le_of_ble_eq_true rfl) ?_
  refine go_aload_n dReading_orderIsWrong_0 rfl ?_
  refine go_getf dReading_orderIsWrong_1 qf_Reading_78 hR.1 rfl ?_
  refine go_if_ne (tgt := 22) dReading_orderIsWrong_4 (fun c1 => ?_) (fun c1 => ?_)
  · refine go_aload_n dReading_orderIsWrong_22 rfl ?_
    refine go_getf dReading_orderIsWrong_23 qf_Reading_47 hR.1 rfl ?_
    refine go_by (1229209940) (fun s2 => ?_) (fun s2 => ?_)
    · refine go_lookup (tgt := 251) (off := 225) dReading_orderIsWrong_26 (by decide) (by decide) ?_
      refine go_aload_n dReading_orderIsWrong_251 rfl ?_
      refine go_getf dReading_orderIsWrong_252 qf_Reading_90 hR.1 rfl ?_
      refine go_if_ne (tgt := 276) dReading_orderIsWrong_255 (fun c3 => ?_) (fun c3 => ?_)
      · refine go_iconst (v := 1) dReading_orderIsWrong_276 (by decide) ?_
        refine go_goto (tgt := 281) dReading_orderIsWrong_277 ?_
        refine go_iret dReading_orderIsWrong_281 rfl rfl ?_ (Nat.le_of_ble_eq_true rfl) (Nat.le_of_ble_eq_true rfl)
        refine ret_bt ?_
        rw [ordW, if_neg c1, if_pos s2]
        simp [c3]
      · refine go_aload_n dReading_orderIsWrong_258 rfl ?_
        refine go_getf dReading_orderIsWrong_259 qf_Reading_23 hR.1 rfl ?_
        refine go_getf dReading_orderIsWrong_262 qf_Reading_146 hR.2.2.1.1 rfl ?_
        refine go_iconst (v := 3) dReading_orderIsWrong_265 (by decide) ?_
        refine go_icmp_ne (tgt := 280) dReading_orderIsWrong_266 (fun c4 => ?_) (fun c4 => ?_)
        · refine go_iconst (v := 0) dReading_orderIsWrong_280 (by decide) ?_
          refine go_iret dReading_orderIsWrong_281 rfl rfl ?_ (Nat.le_of_ble_eq_true rfl) (Nat.le_of_ble_eq_true rfl)
          refine ret_bf ?_
          rw [ordW, if_neg c1, if_pos s2]
          simp [c3, c4]
        · refine go_aload_n dReading_orderIsWrong_269 rfl ?_
          refine go_getf dReading_orderIsWrong_270 qf_Reading_81 hR.1 rfl ?_
          refine go_if_ne (tgt := 280) dReading_orderIsWrong_273 (fun c5 => ?_) (fun c5 => ?_)
          · refine go_iconst (v := 0) dReading_orderIsWrong_280 (by decide) ?_
            refine go_iret dReading_orderIsWrong_281 rfl rfl ?_ (Nat.le_of_ble_eq_true rfl) (Nat.le_of_ble_eq_true rfl)
            refine ret_bf ?_
            rw [ordW, if_neg c1, if_pos s2]
            simp [c3, c4, c5]
          · refine go_iconst (v := 1) dReading_orderIsWrong_276 (by decide) ?_
            refine go_goto (tgt := 281) dReading_orderIsWrong_277 ?_
            refine go_iret dReading_orderIsWrong_281 rfl rfl ?_ (Nat.le_of_ble_eq_true rfl) (Nat.le_of_ble_eq_true rfl)
            refine ret_bt ?_
            rw [ordW, if_neg c1, if_pos s2]
            simp [c3, c4, c5]
    refine go_by (1229278788) (fun s3 => ?_) (fun s3 => ?_)
    · refine go_lookup (tgt := 282) (off := 256) dReading_orderIsWrong_26 (by decide) (by decide) ?_
      refine go_aload_n dReading_orderIsWrong_282 rfl ?_
      refine go_getf dReading_orderIsWrong_283 qf_Reading_87 hR.1 rfl ?_
      refine go_if_ne (tgt := 293) dReading_orderIsWrong_286 (fun c4 => ?_) (fun c4 => ?_)
      · refine go_iconst (v := 0) dReading_orderIsWrong_293 (by decide) ?_
        refine go_iret dReading_orderIsWrong_294 rfl rfl ?_ (Nat.le_of_ble_eq_true rfl) (Nat.le_of_ble_eq_true rfl)
        refine ret_bf ?_
        rw [ordW, if_neg c1, if_neg s2, if_pos s3]
        simp [c4]
      · refine go_iconst (v := 1) dReading_orderIsWrong_289 (by decide) ?_
        refine go_goto (tgt := 294) dReading_orderIsWrong_290 ?_
        refine go_iret dReading_orderIsWrong_294 rfl rfl ?_ (Nat.le_of_ble_eq_true rfl) (Nat.le_of_ble_eq_true rfl)
        refine ret_bt ?_
        rw [ordW, if_neg c1, if_neg s2, if_pos s3]
        simp [c4]
    refine go_by (1229472850) (fun s4 => ?_) (fun s4 => ?_)
    · refine go_lookup (tgt := 100) (off := 74) dReading_orderIsWrong_26 (by decide) (by decide) ?_
      refine go_iconst (v := 1) dReading_orderIsWrong_100 (by decide) ?_
      refine go_iret dReading_orderIsWrong_101 rfl rfl ?_ (Nat.le_of_ble_eq_true rfl) (Nat.le_of_ble_eq_true rfl)
      refine ret_bt ?_
      rw [ordW, if_neg c1, if_neg s2, if_neg s3, if_pos s4]
      trivial
    refine go_by (1347179589) (fun s5 => ?_) (fun s5 => ?_)
    · refine go_lookup (tgt := 197) (off := 171) dReading_orderIsWrong_26 (by decide) (by decide) ?_
      refine go_aload_n dReading_orderIsWrong_197 rfl ?_
      refine go_getf dReading_orderIsWrong_198 qf_Reading_87 hR.1 rfl ?_
      refine go_if_ne (tgt := 218) dReading_orderIsWrong_201 (fun c6 => ?_) (fun c6 => ?_)
      · refine go_iconst (v := 1) dReading_orderIsWrong_218 (by decide) ?_
        refine go_goto (tgt := 223) dReading_orderIsWrong_219 ?_
        refine go_iret dReading_orderIsWrong_223 rfl rfl ?_ (Nat.le_of_ble_eq_true rfl) (Nat.le_of_ble_eq_true rfl)
        refine ret_bt ?_
        rw [ordW, if_neg c1, if_neg s2, if_neg s3, if_neg s4, if_pos s5]
        simp [c6]
      · refine go_aload_n dReading_orderIsWrong_204 rfl ?_
        refine go_getf dReading_orderIsWrong_205 qf_Reading_81 hR.1 rfl ?_
        refine go_if_ne (tgt := 218) dReading_orderIsWrong_208 (fun c7 => ?_) (fun c7 => ?_)
        · refine go_iconst (v := 1) dReading_orderIsWrong_218 (by decide) ?_
          refine go_goto (tgt := 223) dReading_orderIsWrong_219 ?_
          refine go_iret dReading_orderIsWrong_223 rfl rfl ?_ (Nat.le_of_ble_eq_true rfl) (Nat.le_of_ble_eq_true rfl)
          refine ret_bt ?_
          rw [ordW, if_neg c1, if_neg s2, if_neg s3, if_neg s4, if_pos s5]
          simp [c6, c7]
        · refine go_aload_n dReading_orderIsWrong_211 rfl ?_
          refine go_virtP dReading_orderIsWrong_212 ok_mReading_isGreyKind im_mReading_isGreyKind se_mReading_isGreyKind qm_Reading_143 hR.1 (a_Reading_isGreyKind hR) ?_ (hnp := np_mReading_isGreyKind)
          refine go_ifeq_b (tgt := 222) dReading_orderIsWrong_215 (fun c8 => ?_) (fun c8 => ?_)
          · refine go_iconst (v := 0) dReading_orderIsWrong_222 (by decide) ?_
            refine go_iret dReading_orderIsWrong_223 rfl rfl ?_ (Nat.le_of_ble_eq_true rfl) (Nat.le_of_ble_eq_true rfl)
            refine ret_bf ?_
            rw [ordW, if_neg c1, if_neg s2, if_neg s3, if_neg s4, if_pos s5]
            simp [c6, c7, c8]
          · refine go_iconst (v := 1) dReading_orderIsWrong_218 (by decide) ?_
            refine go_goto (tgt := 223) dReading_orderIsWrong_219 ?_
            refine go_iret dReading_orderIsWrong_223 rfl rfl ?_ (Nat.le_of_ble_eq_true rfl) (Nat.le_of_ble_eq_true rfl)
            refine ret_bt ?_
            rw [ordW, if_neg c1, if_neg s2, if_neg s3, if_neg s4, if_pos s5]
            simp [c6, c7, c8]
    refine go_by (1732332865) (fun s6 => ?_) (fun s6 => ?_)
    · refine go_lookup (tgt := 102) (off := 76) dReading_orderIsWrong_26 (by decide) (by decide) ?_
      refine go_aload_n dReading_orderIsWrong_102 rfl ?_
      refine go_getf dReading_orderIsWrong_103 qf_Reading_87 hR.1 rfl ?_
      refine go_if_ne (tgt := 130) dReading_orderIsWrong_106 (fun c7 => ?_) (fun c7 => ?_)
      · refine go_iconst (v := 1) dReading_orderIsWrong_130 (by decide) ?_
        refine go_goto (tgt := 135) dReading_orderIsWrong_131 ?_
        refine go_iret dReading_orderIsWrong_135 rfl rfl ?_ (Nat.le_of_ble_eq_true rfl) (Nat.le_of_ble_eq_true rfl)
        refine ret_bt ?_
        rw [ordW, if_neg c1, if_neg s2, if_neg s3, if_neg s4, if_neg s5, if_pos s6]
        simp [c7]
      · refine go_aload_n dReading_orderIsWrong_109 rfl ?_
        refine go_getf dReading_orderIsWrong_110 qf_Reading_81 hR.1 rfl ?_
        refine go_if_ne (tgt := 130) dReading_orderIsWrong_113 (fun c8 => ?_) (fun c8 => ?_)
        · refine go_iconst (v := 1) dReading_orderIsWrong_130 (by decide) ?_
          refine go_goto (tgt := 135) dReading_orderIsWrong_131 ?_
          refine go_iret dReading_orderIsWrong_135 rfl rfl ?_ (Nat.le_of_ble_eq_true rfl) (Nat.le_of_ble_eq_true rfl)
          refine ret_bt ?_
          rw [ordW, if_neg c1, if_neg s2, if_neg s3, if_neg s4, if_neg s5, if_pos s6]
          simp [c7, c8]
        · refine go_aload_n dReading_orderIsWrong_116 rfl ?_
          refine go_getf dReading_orderIsWrong_117 qf_Reading_23 hR.1 rfl ?_
          refine go_getf dReading_orderIsWrong_120 qf_Reading_134 hR.2.2.1.1 rfl ?_
          refine go_iconst (v := 0) dReading_orderIsWrong_123 (by decide) ?_
          refine go_virtP dReading_orderIsWrong_124 ok_mTags_has im_mTags_has se_mTags_has qm_Reading_140 hR.2.2.1.2.2.1.1 (a_Tags_has (k := 0) (by omega) hR.2.2.1.2.2.1) ?_ (hnp := np_mTags_has)
          refine go_ifeq_b (tgt := 134) dReading_orderIsWrong_127 (fun c9 => ?_) (fun c9 => ?_)
          · refine go_iconst (v := 0) dReading_orderIsWrong_134 (by decide) ?_
            refine go_iret dReading_orderIsWrong_135 rfl rfl ?_ (Nat.le_of_ble_eq_true rfl) (Nat.le_of_ble_eq_true rfl)
            refine ret_bf ?_
            rw [ordW, if_neg c1, if_neg s2, if_neg s3, if_neg s4, if_neg s5, if_pos s6]
            simp [c7, c8, c9]
          · refine go_iconst (v := 1) dReading_orderIsWrong_130 (by decide) ?_
            refine go_goto (tgt := 135) dReading_orderIsWrong_131 ?_
            refine go_iret dReading_orderIsWrong_135 rfl rfl ?_ (Nat.le_of_ble_eq_true rfl) (Nat.le_of_ble_eq_true rfl)
            refine ret_bt ?_
            rw [ordW, if_neg c1, if_neg s2, if_neg s3, if_neg s4, if_neg s5, if_pos s6]
            simp [c7, c8, c9]
    refine go_by (1883789683) (fun s7 => ?_) (fun s7 => ?_)
    · refine go_lookup (tgt := 170) (off := 144) dReading_orderIsWrong_26 (by decide) (by decide) ?_
      refine go_aload_n dReading_orderIsWrong_170 rfl ?_
      refine go_getf dReading_orderIsWrong_171 qf_Reading_87 hR.1 rfl ?_
      refine go_if_ne (tgt := 191) dReading_orderIsWrong_174 (fun c8 => ?_) (fun c8 => ?_)
      · refine go_iconst (v := 1) dReading_orderIsWrong_191 (by decide) ?_
        refine go_goto (tgt := 196) dReading_orderIsWrong_192 ?_
        refine go_iret dReading_orderIsWrong_196 rfl rfl ?_ (Nat.le_of_ble_eq_true rfl) (Nat.le_of_ble_eq_true rfl)
        refine ret_bt ?_
        rw [ordW, if_neg c1, if_neg s2, if_neg s3, if_neg s4, if_neg s5, if_neg s6, if_pos s7]
        simp [c8]
      · refine go_aload_n dReading_orderIsWrong_177 rfl ?_
        refine go_getf dReading_orderIsWrong_178 qf_Reading_23 hR.1 rfl ?_
        refine go_getf dReading_orderIsWrong_181 qf_Reading_134 hR.2.2.1.1 rfl ?_
        refine go_iconst (v := 2) dReading_orderIsWrong_184 (by decide) ?_
        refine go_virtP dReading_orderIsWrong_185 ok_mTags_has im_mTags_has se_mTags_has qm_Reading_140 hR.2.2.1.2.2.1.1 (a_Tags_has (k := 2) (by omega) hR.2.2.1.2.2.1) ?_ (hnp := np_mTags_has)
        refine go_ifeq_b (tgt := 195) dReading_orderIsWrong_188 (fun c9 => ?_) (fun c9 => ?_)
        · refine go_iconst (v := 0) dReading_orderIsWrong_195 (by decide) ?_
          refine go_iret dReading_orderIsWrong_196 rfl rfl ?_ (Nat.le_of_ble_eq_true rfl) (Nat.le_of_ble_eq_true rfl)
          refine ret_bf ?_
          rw [ordW, if_neg c1, if_neg s2, if_neg s3, if_neg s4, if_neg s5, if_neg s6, if_pos s7]
          simp [c8, c9]
        · refine go_iconst (v := 1) dReading_orderIsWrong_191 (by decide) ?_
          refine go_goto (tgt := 196) dReading_orderIsWrong_192 ?_
          refine go_iret dReading_orderIsWrong_196 rfl rfl ?_ (Nat.le_of_ble_eq_true rfl) (Nat.le_of_ble_eq_true rfl)
          refine ret_bt ?_
          rw [ordW, if_neg c1, if_neg s2, if_neg s3, if_neg s4, if_neg s5, if_neg s6, if_pos s7]
          simp [c8, c9]
    refine go_by (1934772034) (fun s8 => ?_) (fun s8 => ?_)
    · refine go_lookup (tgt := 136) (off := 110) dReading_orderIsWrong_26 (by decide) (by decide) ?_
      refine go_aload_n dReading_orderIsWrong_136 rfl ?_
      refine go_getf dReading_orderIsWrong_137 qf_Reading_87 hR.1 rfl ?_
      refine go_if_ne (tgt := 164) dReading_orderIsWrong_140 (fun c9 => ?_) (fun c9 => ?_)
      · refine go_iconst (v := 1) dReading_orderIsWrong_164 (by decide) ?_
        refine go_goto (tgt := 169) dReading_orderIsWrong_165 ?_
        refine go_iret dReading_orderIsWrong_169 rfl rfl ?_ (Nat.le_of_ble_eq_true rfl) (Nat.le_of_ble_eq_true rfl)
        refine ret_bt ?_
        rw [ordW, if_neg c1, if_neg s2, if_neg s3, if_neg s4, if_neg s5, if_neg s6, if_neg s7, if_pos s8]
        simp [c9]
      · refine go_aload_n dReading_orderIsWrong_143 rfl ?_
        refine go_getf dReading_orderIsWrong_144 qf_Reading_81 hR.1 rfl ?_
        refine go_if_ne (tgt := 164) dReading_orderIsWrong_147 (fun c10 => ?_) (fun c10 => ?_)
        · refine go_iconst (v := 1) dReading_orderIsWrong_164 (by decide) ?_
          refine go_goto (tgt := 169) dReading_orderIsWrong_165 ?_
          refine go_iret dReading_orderIsWrong_169 rfl rfl ?_ (Nat.le_of_ble_eq_true rfl) (Nat.le_of_ble_eq_true rfl)
          refine ret_bt ?_
          rw [ordW, if_neg c1, if_neg s2, if_neg s3, if_neg s4, if_neg s5, if_neg s6, if_neg s7, if_pos s8]
          simp [c9, c10]
        · refine go_aload_n dReading_orderIsWrong_150 rfl ?_
          refine go_getf dReading_orderIsWrong_151 qf_Reading_23 hR.1 rfl ?_
          refine go_getf dReading_orderIsWrong_154 qf_Reading_134 hR.2.2.1.1 rfl ?_
          refine go_iconst (v := 1) dReading_orderIsWrong_157 (by decide) ?_
          refine go_virtP dReading_orderIsWrong_158 ok_mTags_has im_mTags_has se_mTags_has qm_Reading_140 hR.2.2.1.2.2.1.1 (a_Tags_has (k := 1) (by omega) hR.2.2.1.2.2.1) ?_ (hnp := np_mTags_has)
          refine go_ifeq_b (tgt := 168) dReading_orderIsWrong_161 (fun c11 => ?_) (fun c11 => ?_)
          · refine go_iconst (v := 0) dReading_orderIsWrong_168 (by decide) ?_
            refine go_iret dReading_orderIsWrong_169 rfl rfl ?_ (Nat.le_of_ble_eq_true rfl) (Nat.le_of_ble_eq_true rfl)
            refine ret_bf ?_
            rw [ordW, if_neg c1, if_neg s2, if_neg s3, if_neg s4, if_neg s5, if_neg s6, if_neg s7, if_pos s8]
            simp [c9, c10, c11]
          · refine go_iconst (v := 1) dReading_orderIsWrong_164 (by decide) ?_
            refine go_goto (tgt := 169) dReading_orderIsWrong_165 ?_
            refine go_iret dReading_orderIsWrong_169 rfl rfl ?_ (Nat.le_of_ble_eq_true rfl) (Nat.le_of_ble_eq_true rfl)
            refine ret_bt ?_
            rw [ordW, if_neg c1, if_neg s2, if_neg s3, if_neg s4, if_neg s5, if_neg s6, if_neg s7, if_pos s8]
            simp [c9, c10, c11]
    refine go_by (1951551059) (fun s9 => ?_) (fun s9 => ?_)
    · refine go_lookup (tgt := 224) (off := 198) dReading_orderIsWrong_26 (by decide) (by decide) ?_
      refine go_aload_n dReading_orderIsWrong_224 rfl ?_
      refine go_getf dReading_orderIsWrong_225 qf_Reading_87 hR.1 rfl ?_
      refine go_if_ne (tgt := 245) dReading_orderIsWrong_228 (fun c10 => ?_) (fun c10 => ?_)
      · refine go_iconst (v := 1) dReading_orderIsWrong_245 (by decide) ?_
        refine go_goto (tgt := 250) dReading_orderIsWrong_246 ?_
        refine go_iret dReading_orderIsWrong_250 rfl rfl ?_ (Nat.le_of_ble_eq_true rfl) (Nat.le_of_ble_eq_true rfl)
        refine ret_bt ?_
        rw [ordW, if_neg c1, if_neg s2, if_neg s3, if_neg s4, if_neg s5, if_neg s6, if_neg s7, if_neg s8, if_pos s9]
        simp [c10]
      · refine go_aload_n dReading_orderIsWrong_231 rfl ?_
        refine go_getf dReading_orderIsWrong_232 qf_Reading_84 hR.1 rfl ?_
        refine go_if_ne (tgt := 245) dReading_orderIsWrong_235 (fun c11 => ?_) (fun c11 => ?_)
        · refine go_iconst (v := 1) dReading_orderIsWrong_245 (by decide) ?_
          refine go_goto (tgt := 250) dReading_orderIsWrong_246 ?_
          refine go_iret dReading_orderIsWrong_250 rfl rfl ?_ (Nat.le_of_ble_eq_true rfl) (Nat.le_of_ble_eq_true rfl)
          refine ret_bt ?_
          rw [ordW, if_neg c1, if_neg s2, if_neg s3, if_neg s4, if_neg s5, if_neg s6, if_neg s7, if_neg s8, if_pos s9]
          simp [c10, c11]
        · refine go_aload_n dReading_orderIsWrong_238 rfl ?_
          refine go_getf dReading_orderIsWrong_239 qf_Reading_81 hR.1 rfl ?_
          refine go_if_ne (tgt := 249) dReading_orderIsWrong_242 (fun c12 => ?_) (fun c12 => ?_)
          · refine go_iconst (v := 0) dReading_orderIsWrong_249 (by decide) ?_
            refine go_iret dReading_orderIsWrong_250 rfl rfl ?_ (Nat.le_of_ble_eq_true rfl) (Nat.le_of_ble_eq_true rfl)
            refine ret_bf ?_
            rw [ordW, if_neg c1, if_neg s2, if_neg s3, if_neg s4, if_neg s5, if_neg s6, if_neg s7, if_neg s8, if_pos s9]
            simp [c10, c11, c12]
          · refine go_iconst (v := 1) dReading_orderIsWrong_245 (by decide) ?_
            refine go_goto (tgt := 250) dReading_orderIsWrong_246 ?_
            refine go_iret dReading_orderIsWrong_250 rfl rfl ?_ (Nat.le_of_ble_eq_true rfl) (Nat.le_of_ble_eq_true rfl)
            refine ret_bt ?_
            rw [ordW, if_neg c1, if_neg s2, if_neg s3, if_neg s4, if_neg s5, if_neg s6, if_neg s7, if_neg s8, if_pos s9]
            simp [c10, c11, c12]
    refine go_lookup (tgt := 295) (off := 269) dReading_orderIsWrong_26 (by decide) (by rw [lv_osw s2 (by decide)]; rw [lv_osw s3 (by decide)]; rw [lv_osw s4 (by decide)]; rw [lv_osw s5 (by decide)]; rw [lv_osw s6 (by decide)]; rw [lv_osw s7 (by decide)]; rw [lv_osw s8 (by decide)]; rw [lv_osw s9 (by decide)]; rfl) ?_
    refine go_iconst (v := 0) dReading_orderIsWrong_295 (by decide) ?_
    refine go_iret dReading_orderIsWrong_296 rfl rfl ?_ (Nat.le_of_ble_eq_true rfl) (Nat.le_of_ble_eq_true rfl)
    refine ret_bf ?_
    rw [ordW, if_neg c1, if_neg s2, if_neg s3, if_neg s4, if_neg s5, if_neg s6, if_neg s7, if_neg s8, if_neg s9]
    exact id
  · refine go_aload_n dReading_orderIsWrong_7 rfl ?_
    refine go_getf dReading_orderIsWrong_8 qf_Reading_47 hR.1 rfl ?_
    refine go_ldc dReading_orderIsWrong_11 qc_Reading_133 ?_
    refine go_icmp_eq (tgt := 20) dReading_orderIsWrong_13 (fun c2 => ?_) (fun c2 => ?_)
    · refine go_iconst (v := 0) dReading_orderIsWrong_20 (by decide) ?_
      refine go_iret dReading_orderIsWrong_21 rfl rfl ?_ (Nat.le_of_ble_eq_true rfl) (Nat.le_of_ble_eq_true rfl)
      exact ret_bf (by rw [ordW, if_pos c1]; exact fun q => q c2)
    · refine go_iconst (v := 1) dReading_orderIsWrong_16 (by decide) ?_
      refine go_goto (tgt := 21) dReading_orderIsWrong_17 ?_
      refine go_iret dReading_orderIsWrong_21 rfl rfl ?_ (Nat.le_of_ble_eq_true rfl) (Nat.le_of_ble_eq_true rfl)
      exact ret_bt (by rw [ordW, if_pos c1]; exact c2)
set_option maxHeartbeats 4000000 in
theorem a_Reading_leaveOut {E : pmEv} {h : pmH} {z : Option Nat} {r : Nat} {p : aRow} {S : aRs} (hR : ReA h r p S) : Call E mReading_leaveOut [.ref r] h z 0 0 (RetX (some (.int (if grW (S.2.2 6) then 4 else 0))) (fun h' => ReA h' r p (loS S) ∧ Sm h h' r 15) z) := by
  have hs : Sm h h r 15 := Sm.refl _ _ _
  refine call_of (L := [some (.ref r)]) ok_mReading_leaveOut (Nat.le_of_ble_eq_true rfl) ?_
  refine go_aload_n dReading_leaveOut_0 rfl ?_
  refine go_getf dReading_leaveOut_1 qf_Reading_47 hR.1 rfl ?_
  refine go_statP dReading_leaveOut_4 ok_mLetters_firstIsGreat st_mLetters_firstIsGreat qm_Reading_129 c_Letters_firstIsGreat ?_ (hnp := np_mLetters_firstIsGreat)
  refine go_ifeq_b (tgt := 12) dReading_leaveOut_7 (fun c1 => ?_) (fun c1 => ?_)
  · refine go_aload_n dReading_leaveOut_12 rfl ?_
    refine go_dup dReading_leaveOut_13 rfl ?_
    refine go_getf dReading_leaveOut_14 qf_Reading_69 hR.1 rfl ?_
    refine go_iconst (v := 1) dReading_leaveOut_17 (by decide) ?_
    refine go_iadd dReading_leaveOut_18 ?_
    refine go_putf dReading_leaveOut_19 qf_Reading_69 pw_4_7 hR.1 rfl rfl ?_
    refine go_nm (fun hnk1 enk1 => ?_)
    have gsk1 : Sm h hnk1 r 1 := by rw [enk1]; exact (Sm.put' (Sm.refl _ _ _) _ (by omega) (by omega))
    have hRk1 := ReA.put (g := upd S.2.2 4 (S.2.2 4 + 1)) hR ((congrFun enk1 r).trans (pmU_s _ _ _)) gsk1
    have sk1 := hs.trans (gsk1.sub (a := r) (n := 15) (by omega) (by omega))
    refine go_aload_n dReading_leaveOut_22 rfl ?_
    refine go_virtX dReading_leaveOut_23 ok_mReading_noteRowsEnd im_mReading_noteRowsEnd se_mReading_noteRowsEnd qm_Reading_112 hRk1.1 (a_Reading_noteRowsEnd hRk1) (fun hx2 d2 q2 => ?_) (hnp := np_mReading_noteRowsEnd)
    have hR2 := q2.1
    have s2 := sk1.trans q2.2
    refine go_iconst (v := 0) dReading_leaveOut_26 (by decide) ?_
    refine go_iret dReading_leaveOut_27 rfl rfl ?_ (Nat.le_of_ble_eq_true rfl) (Nat.le_of_ble_eq_true rfl)
    exact retX_e (by rw [if_neg c1]) ⟨by rw [loS, if_neg c1]; exact hR2, s2⟩
  · refine go_iconst (v := 4) dReading_leaveOut_10 (by decide) ?_
    refine go_iret dReading_leaveOut_11 rfl rfl ?_ (Nat.le_of_ble_eq_true rfl) (Nat.le_of_ble_eq_true rfl)
    exact retX_e (by rw [if_pos c1]) ⟨by rw [loS, if_pos c1]; exact hR, hs⟩
set_option maxHeartbeats 4000000 in
theorem a_Reading_frameFault {E : pmEv} {h : pmH} {z : Option Nat} {r : Nat} {p : aRow} {S : aRs} {a : Nat} (ha : S.2.2 2 = nI a) (h8 : a ≤ 4000) (hN : p.2 ≤ 2000) (hR : ReA h r p S) : Call E mReading_frameFault [.ref r] h z 0 0 (RetX (some (.int (frV p a))) (fun h' => (∃ g, ReA h' r p (S.1, S.2.1, g) ∧ (∀ j, j ≠ 5 → j ≠ 6 → g j = S.2.2 j) ∧ (frV p a = 0 → g = frG p a S.2.2)) ∧ Sm h h' r 15) z) := by
  have hs : Sm h h r 15 := Sm.refl _ _ _
  refine call_of (L := [some (.ref r)]) ok_mReading_frameFault (Nat.le_of_ble_eq_true rfl) ?_
  refine go_aload_n dReading_frameFault_0 rfl ?_
  refine go_getf dReading_frameFault_1 qf_Reading_14 hR.1 rfl ?_
  refine go_aload_n dReading_frameFault_4 rfl ?_
  refine go_getf dReading_frameFault_5 qf_Reading_56 hR.1 rfl ?_
  rw [ha]
  refine go_iconst (v := 0) dReading_frameFault_8 (by decide) ?_
  refine go_virtP dReading_frameFault_9 ok_mBytes_hasWholeChunk im_mBytes_hasWholeChunk se_mBytes_hasWholeChunk qm_Reading_115 hR.2.1.1 (a_Bytes_hasWholeChunk hR.2.1 hN) ?_ (hnp := np_mBytes_hasWholeChunk)
  refine go_ifne_b (tgt := 17) dReading_frameFault_12 (fun c1 => ?_) (fun c1 => ?_)
  · have f1 := (chunk_n (c := p.2) (p := a) (l := 0) (by omega) (by omega) (by omega)).mp c1
    refine go_aload_n dReading_frameFault_17 rfl ?_
    refine go_aload_n dReading_frameFault_18 rfl ?_
    refine go_getf dReading_frameFault_19 qf_Reading_14 hR.1 rfl ?_
    refine go_aload_n dReading_frameFault_22 rfl ?_
    refine go_getf dReading_frameFault_23 qf_Reading_56 hR.1 rfl ?_
    rw [ha]
    refine go_virtP dReading_frameFault_26 ok_mBytes_number im_mBytes_number se_mBytes_number qm_Reading_118 hR.2.1.1 (a_Bytes_number hR.2.1 hN) ?_ (hnp := np_mBytes_number)
    rw [bN4_n (by omega) (show a + 3 < p.2 by omega)]
    refine go_putf dReading_frameFault_29 qf_Reading_59 pw_4_8 hR.1 rfl rfl ?_
    refine go_nm (fun hnk1 enk1 => ?_)
    have gsk1 : Sm h hnk1 r 1 := by rw [enk1]; exact (Sm.put' (Sm.refl _ _ _) _ (by omega) (by omega))
    have hRk1 := ReA.put (g := upd S.2.2 5 _) hR ((congrFun enk1 r).trans (pmU_s _ _ _)) gsk1
    have sk1 := hs.trans (gsk1.sub (a := r) (n := 15) (by omega) (by omega))
    refine go_aload_n dReading_frameFault_32 rfl ?_
    refine go_getf dReading_frameFault_33 qf_Reading_59 hRk1.1 rfl ?_
    refine go_statP dReading_frameFault_36 ok_mBytes_dataLengthMayBe st_mBytes_dataLengthMayBe qm_Reading_122 c_Bytes_dataLengthMayBe ?_ (hnp := np_mBytes_dataLengthMayBe)
    refine go_ifne_b (tgt := 44) dReading_frameFault_39 (fun c2 => ?_) (fun c2 => ?_)
    · obtain ⟨l, hl, el⟩ := len_ex (x := fr p.1 a) c2
      refine go_aload_n dReading_frameFault_44 rfl ?_
      refine go_getf dReading_frameFault_45 qf_Reading_14 hRk1.1 rfl ?_
      refine go_aload_n dReading_frameFault_48 rfl ?_
      refine go_getf dReading_frameFault_49 qf_Reading_56 hRk1.1 rfl ?_
      refine go_top (y := nI a) (by show S.2.2 2 = _; exact ha) ?_
      refine go_aload_n dReading_frameFault_52 rfl ?_
      refine go_getf dReading_frameFault_53 qf_Reading_59 hRk1.1 rfl ?_
      refine go_top (y := nI l) (by show fr p.1 a = _; exact el) ?_
      refine go_virtP dReading_frameFault_56 ok_mBytes_hasWholeChunk im_mBytes_hasWholeChunk se_mBytes_hasWholeChunk qm_Reading_115 hRk1.2.1.1 (a_Bytes_hasWholeChunk hRk1.2.1 hN) ?_ (hnp := np_mBytes_hasWholeChunk)
      refine go_ifne_b (tgt := 64) dReading_frameFault_59 (fun c3 => ?_) (fun c3 => ?_)
      · have f2 := (chunk_n (by omega) (by omega) (by omega)).mp c3
        refine go_aload_n dReading_frameFault_64 rfl ?_
        refine go_aload_n dReading_frameFault_65 rfl ?_
        refine go_getf dReading_frameFault_66 qf_Reading_14 hRk1.1 rfl ?_
        refine go_aload_n dReading_frameFault_69 rfl ?_
        refine go_getf dReading_frameFault_70 qf_Reading_56 hRk1.1 rfl ?_
        refine go_iconst (v := 4) dReading_frameFault_73 (by decide) ?_
        refine go_iadd dReading_frameFault_74 ?_
        refine go_top (y := nI (a + 4)) (by show S.2.2 2 + 4 = _; rw [ha]; exact nI_a4 a) ?_
        refine go_virtP dReading_frameFault_75 ok_mBytes_number im_mBytes_number se_mBytes_number qm_Reading_118 hRk1.2.1.1 (a_Bytes_number hRk1.2.1 hN) ?_ (hnp := np_mBytes_number)
        rw [bN4_n (by omega) (show a + 4 + 3 < p.2 by omega)]
        refine go_putf dReading_frameFault_78 qf_Reading_47 pw_4_9 hRk1.1 rfl rfl ?_
        refine go_nm (fun hnk2 enk2 => ?_)
        have gsk2 : Sm hnk1 hnk2 r 1 := by rw [enk2]; exact (Sm.put' (Sm.refl _ _ _) _ (by omega) (by omega))
        have hRk2 := ReA.put (g := upd (upd S.2.2 5 (fr p.1 a)) 6 _) hRk1 ((congrFun enk2 r).trans (pmU_s _ _ _)) gsk2
        have sk2 := sk1.trans (gsk2.sub (a := r) (n := 15) (by omega) (by omega))
        refine go_aload_n dReading_frameFault_81 rfl ?_
        refine go_getf dReading_frameFault_82 qf_Reading_47 hRk2.1 rfl ?_
        refine go_statP dReading_frameFault_85 ok_mLetters_mayBe st_mLetters_mayBe qm_Reading_126 c_Letters_mayBe ?_ (hnp := np_mLetters_mayBe)
        refine go_ifeq_b (tgt := 95) dReading_frameFault_88 (fun c4 => ?_) (fun c4 => ?_)
        · refine go_iconst (v := 3) dReading_frameFault_95 (by decide) ?_
          refine go_iret dReading_frameFault_96 rfl rfl ?_ (Nat.le_of_ble_eq_true rfl) (Nat.le_of_ble_eq_true rfl)
          have ev : frV p a = 3 := by rw [frV, if_neg (Nat.not_lt.mpr f1), if_neg (fun q => q (show 0 ≤ fr p.1 a ∧ fr p.1 a ≤ 255 from c2)), if_neg (show ¬ p.2 < a + 12 + (fr p.1 a).toNatClampNeg by rw [el, nI_clamp (by omega)]; omega), if_neg (show ¬ letsOk (fr p.1 (a + 4)) from c4)]
          exact retX_e (by rw [ev]) ⟨⟨_, hRk2, fun j h1 h2 => (pk_un h2).trans (pk_un h1), fun q => absurd (ev.symm.trans q) (by decide)⟩, sk2⟩
        · refine go_iconst (v := 0) dReading_frameFault_91 (by decide) ?_
          refine go_goto (tgt := 96) dReading_frameFault_92 ?_
          refine go_iret dReading_frameFault_96 rfl rfl ?_ (Nat.le_of_ble_eq_true rfl) (Nat.le_of_ble_eq_true rfl)
          have ev : frV p a = 0 := by rw [frV, if_neg (Nat.not_lt.mpr f1), if_neg (fun q => q (show 0 ≤ fr p.1 a ∧ fr p.1 a ≤ 255 from c2)), if_neg (show ¬ p.2 < a + 12 + (fr p.1 a).toNatClampNeg by rw [el, nI_clamp (by omega)]; omega), if_pos (show letsOk (fr p.1 (a + 4)) from c4)]
          exact retX_e (by rw [ev]) ⟨⟨_, hRk2, fun j h1 h2 => (pk_un h2).trans (pk_un h1), fun q => rfl⟩, sk2⟩
      · refine go_iconst (v := 1) dReading_frameFault_62 (by decide) ?_
        refine go_iret dReading_frameFault_63 rfl rfl ?_ (Nat.le_of_ble_eq_true rfl) (Nat.le_of_ble_eq_true rfl)
        have ev : frV p a = 1 := by rw [frV, if_neg (Nat.not_lt.mpr f1), if_neg (fun q => q (show 0 ≤ fr p.1 a ∧ fr p.1 a ≤ 255 from c2)), if_pos (show p.2 < a + 12 + (fr p.1 a).toNatClampNeg by rw [el, nI_clamp (by omega)]; exact Nat.not_le.mp fun q => c3 ((chunk_n (by omega) (by omega) (by omega)).mpr q))]
        exact retX_e (by rw [ev]) ⟨⟨_, hRk1, fun j h1 h2 => pk_un h1, fun q => absurd (ev.symm.trans q) (by decide)⟩, sk1⟩
    · refine go_iconst (v := 2) dReading_frameFault_42 (by decide) ?_
      refine go_iret dReading_frameFault_43 rfl rfl ?_ (Nat.le_of_ble_eq_true rfl) (Nat.le_of_ble_eq_true rfl)
      have ev : frV p a = 2 := by rw [frV, if_neg (Nat.not_lt.mpr f1), if_pos (show ¬ (0 ≤ fr p.1 a ∧ fr p.1 a ≤ 255) from c2)]
      exact retX_e (by rw [ev]) ⟨⟨_, hRk1, fun j h1 h2 => pk_un h1, fun q => absurd (ev.symm.trans q) (by decide)⟩, sk1⟩
  · refine go_iconst (v := 1) dReading_frameFault_15 (by decide) ?_
    refine go_iret dReading_frameFault_16 rfl rfl ?_ (Nat.le_of_ble_eq_true rfl) (Nat.le_of_ble_eq_true rfl)
    have ev : frV p a = 1 := by rw [frV, if_pos (Nat.not_le.mp fun q => c1 ((chunk_n (c := p.2) (p := a) (l := 0) (by omega) (by omega) (by omega)).mpr (by omega)))]
    exact retX_e (by rw [ev]) ⟨⟨S.2.2, hR, fun _ _ _ => rfl, fun q => absurd (ev.symm.trans q) (by decide)⟩, hs⟩
set_option maxHeartbeats 4000000 in
theorem a_Reading_takeTag {E : pmEv} {h : pmH} {z : Option Nat} {r : Nat} {p : aRow} {S : aRs} {k : Nat} {v : Int32} (hk : k < 3) (hR : ReA h r p S) : Call E mReading_takeTag [.ref r, .int (nI k), .int v] h z 0 0 (RetX (some (.int (bI (tgOk (nI k) v)))) (fun h' => ReA h' r p (if tgOk (nI k) v then ((S.1.1, tgS S.1.2 k v), S.2) else S) ∧ Sm h h' r 15) z) := by
  have hs : Sm h h r 15 := Sm.refl _ _ _
  refine call_of (L := [some (.ref r), some (.int (nI k)), some (.int v)]) ok_mReading_takeTag (Nat.le_of_ble_eq_true rfl) ?_
  refine go_iload_n dReading_takeTag_0 rfl ?_
  refine go_iload_n dReading_takeTag_1 rfl ?_
  refine go_statP dReading_takeTag_2 ok_mTags_mayBe st_mTags_mayBe qm_Reading_179 c_Tags_mayBe ?_ (hnp := np_mTags_mayBe)
  refine go_ifne_b (tgt := 10) dReading_takeTag_5 (fun c1 => ?_) (fun c1 => ?_)
  · refine go_aload_n dReading_takeTag_10 rfl ?_
    refine go_getf dReading_takeTag_11 qf_Reading_23 hR.1 rfl ?_
    refine go_getf dReading_takeTag_14 qf_Reading_134 hR.2.2.1.1 rfl ?_
    refine go_iload_n dReading_takeTag_17 rfl ?_
    refine go_iload_n dReading_takeTag_18 rfl ?_
    refine go_virtX dReading_takeTag_19 ok_mTags_set im_mTags_set se_mTags_set qm_Reading_181 hR.2.2.1.2.2.1.1 (a_Tags_set hk hR.2.2.1.2.2.1) (fun hx2 d2 q2 => ?_) (hnp := np_mTags_set)
    refine go_iconst (v := 1) dReading_takeTag_22 (by decide) ?_
    refine go_iret dReading_takeTag_23 rfl rfl ?_ (Nat.le_of_ble_eq_true rfl) (Nat.le_of_ble_eq_true rfl)
    exact retX_e (by rw [bI_t c1]) ⟨by rw [if_pos c1]; exact hR.pic (hR.2.2.1.tag q2.1 q2.2) (q2.2.sub (by omega) (by omega)), q2.2.sub (by omega) (by omega)⟩
  · refine go_iconst (v := 0) dReading_takeTag_8 (by decide) ?_
    refine go_iret dReading_takeTag_9 rfl rfl ?_ (Nat.le_of_ble_eq_true rfl) (Nat.le_of_ble_eq_true rfl)
    exact retX_e (by rw [bI_f c1]) ⟨by rw [if_neg c1]; exact hR, hs⟩
set_option maxHeartbeats 4000000 in
theorem a_Reading_takeHead {E : pmEv} {h : pmH} {z : Option Nat} {r : Nat} {p : aRow} {S : aRs} {a l : Nat} (ha : S.2.2 2 = nI a) (hl : S.2.2 5 = nI l) (hl2 : l ≤ 255) (hf : a + 12 + l ≤ p.2) (hN : p.2 ≤ 2000) (hR : ReA h r p S) : Call E mReading_takeHead [.ref r, .int (nI (a + 8))] h z 0 0 (RetX (some (.int (bI (hdOk p a l)))) (fun h' => ReA h' r p (if hdOk p a l then hdS p a S else S) ∧ Sm h h' r 15) z) := by
  have hs : Sm h h r 15 := Sm.refl _ _ _
  refine call_of (L := [some (.ref r), some (.int (nI (a + 8))), none, none, none, none]) ok_mReading_takeHead (Nat.le_of_ble_eq_true rfl) ?_
  refine go_aload_n dReading_takeHead_0 rfl ?_
  refine go_getf dReading_takeHead_1 qf_Reading_14 hR.1 rfl ?_
  refine go_iload_n dReading_takeHead_4 rfl ?_
  refine go_virtP dReading_takeHead_5 ok_mBytes_number im_mBytes_number se_mBytes_number qm_Reading_118 hR.2.1.1 (a_Bytes_number hR.2.1 hN) ?_ (hnp := np_mBytes_number)
  refine go_istore_n dReading_takeHead_8 ?_
  refine go_aload_n dReading_takeHead_9 rfl ?_
  refine go_getf dReading_takeHead_10 qf_Reading_14 hR.1 rfl ?_
  refine go_iload_n dReading_takeHead_13 rfl ?_
  refine go_iconst (v := 4) dReading_takeHead_14 (by decide) ?_
  refine go_iadd dReading_takeHead_15 ?_
  refine go_top (y := nI (a + 8 + 4)) (by show nI (a + 8) + 4 = _; rw [show (4 : Int32) = nI 4 from rfl, nI_add]) ?_
  refine go_virtP dReading_takeHead_16 ok_mBytes_number im_mBytes_number se_mBytes_number qm_Reading_118 hR.2.1.1 (a_Bytes_number hR.2.1 hN) ?_ (hnp := np_mBytes_number)
  refine go_istore_n dReading_takeHead_19 ?_
  refine go_aload_n dReading_takeHead_20 rfl ?_
  refine go_getf dReading_takeHead_21 qf_Reading_14 hR.1 rfl ?_
  refine go_iload_n dReading_takeHead_24 rfl ?_
  refine go_bipush (v := 8) dReading_takeHead_25 (by decide) ?_
  refine go_iadd dReading_takeHead_27 ?_
  refine go_top (y := nI (a + 8 + 8)) (by show nI (a + 8) + 8 = _; rw [show (8 : Int32) = nI 8 from rfl, nI_add]) ?_
  refine go_virtP dReading_takeHead_28 ok_mBytes_value im_mBytes_value se_mBytes_value qm_Reading_158 hR.2.1.1 (a_Bytes_value hR.2.1 hN) ?_ (hnp := np_mBytes_value)
  refine go_istore dReading_takeHead_31 ?_
  refine go_aload_n dReading_takeHead_33 rfl ?_
  refine go_getf dReading_takeHead_34 qf_Reading_14 hR.1 rfl ?_
  refine go_iload_n dReading_takeHead_37 rfl ?_
  refine go_bipush (v := 9) dReading_takeHead_38 (by decide) ?_
  refine go_iadd dReading_takeHead_40 ?_
  refine go_top (y := nI (a + 8 + 9)) (by show nI (a + 8) + 9 = _; rw [show (9 : Int32) = nI 9 from rfl, nI_add]) ?_
  refine go_virtP dReading_takeHead_41 ok_mBytes_value im_mBytes_value se_mBytes_value qm_Reading_158 hR.2.1.1 (a_Bytes_value hR.2.1 hN) ?_ (hnp := np_mBytes_value)
  refine go_istore dReading_takeHead_44 ?_
  refine go_aload_n dReading_takeHead_46 rfl ?_
  refine go_getf dReading_takeHead_47 qf_Reading_59 hR.1 rfl ?_
  refine go_bipush (v := 13) dReading_takeHead_50 (by decide) ?_
  refine go_icmp_ne (tgt := 109) dReading_takeHead_52 (fun c1 => ?_) (fun c1 => ?_)
  · refine go_iconst (v := 0) dReading_takeHead_109 (by decide) ?_
    refine go_iret dReading_takeHead_110 rfl rfl ?_ (Nat.le_of_ble_eq_true rfl) (Nat.le_of_ble_eq_true rfl)
    have hh : ¬ hdOk p a l := fun q => c1 (by rw [hl, q.1]; rfl)
    exact retX_e (by rw [bI_f hh]) ⟨by rw [if_neg hh]; exact hR, hs⟩
  · have e13 : l = 13 := (nI_inj (b := 13) (by omega) (by omega)).mp (hl.symm.trans c1)
    have v1 := bN4_n (f := p.1) (c := p.2) (j := a + 8) (by omega) (by omega)
    have v2 := bN4_n (f := p.1) (c := p.2) (j := a + 8 + 4) (by omega) (by omega)
    have v3 := bv_in (f := p.1) (c := p.2) (j := a + 8 + 8) (by omega) (by omega)
    have v4 := bv_in (f := p.1) (c := p.2) (j := a + 8 + 9) (by omega) (by omega)
    have v5 := bv_in (f := p.1) (c := p.2) (j := a + 8 + 10) (by omega) (by omega)
    have v6 := bv_in (f := p.1) (c := p.2) (j := a + 8 + 11) (by omega) (by omega)
    have v7 := bv_in (f := p.1) (c := p.2) (j := a + 8 + 12) (by omega) (by omega)
    refine go_iload_n dReading_takeHead_55 rfl ?_
    refine go_iload_n dReading_takeHead_56 rfl ?_
    refine go_iload dReading_takeHead_57 rfl ?_
    refine go_iload dReading_takeHead_59 rfl ?_
    refine go_statP dReading_takeHead_61 ok_mShape_mayBe st_mShape_mayBe qm_Reading_173 c_Shape_mayBe ?_ (hnp := np_mShape_mayBe)
    refine go_ifeq_b (tgt := 109) dReading_takeHead_64 (fun c2 => ?_) (fun c2 => ?_)
    · refine go_iconst (v := 0) dReading_takeHead_109 (by decide) ?_
      refine go_iret dReading_takeHead_110 rfl rfl ?_ (Nat.le_of_ble_eq_true rfl) (Nat.le_of_ble_eq_true rfl)
      have hh : ¬ hdOk p a l := fun q => c2 (by rw [v1, v2, v3, v4]; exact q.2.1)
      exact retX_e (by rw [bI_f hh]) ⟨by rw [if_neg hh]; exact hR, hs⟩
    · refine go_aload_n dReading_takeHead_67 rfl ?_
      refine go_getf dReading_takeHead_68 qf_Reading_14 hR.1 rfl ?_
      refine go_iload_n dReading_takeHead_71 rfl ?_
      refine go_bipush (v := 10) dReading_takeHead_72 (by decide) ?_
      refine go_iadd dReading_takeHead_74 ?_
      refine go_top (y := nI (a + 8 + 10)) (by show nI (a + 8) + 10 = _; rw [show (10 : Int32) = nI 10 from rfl, nI_add]) ?_
      refine go_virtP dReading_takeHead_75 ok_mBytes_value im_mBytes_value se_mBytes_value qm_Reading_158 hR.2.1.1 (a_Bytes_value hR.2.1 hN) ?_ (hnp := np_mBytes_value)
      refine go_if_ne (tgt := 109) dReading_takeHead_78 (fun c3 => ?_) (fun c3 => ?_)
      · refine go_iconst (v := 0) dReading_takeHead_109 (by decide) ?_
        refine go_iret dReading_takeHead_110 rfl rfl ?_ (Nat.le_of_ble_eq_true rfl) (Nat.le_of_ble_eq_true rfl)
        have hh : ¬ hdOk p a l := fun q => c3 (by rw [v5]; exact q.2.2.1)
        exact retX_e (by rw [bI_f hh]) ⟨by rw [if_neg hh]; exact hR, hs⟩
      · refine go_aload_n dReading_takeHead_81 rfl ?_
        refine go_getf dReading_takeHead_82 qf_Reading_14 hR.1 rfl ?_
        refine go_iload_n dReading_takeHead_85 rfl ?_
        refine go_bipush (v := 11) dReading_takeHead_86 (by decide) ?_
        refine go_iadd dReading_takeHead_88 ?_
        refine go_top (y := nI (a + 8 + 11)) (by show nI (a + 8) + 11 = _; rw [show (11 : Int32) = nI 11 from rfl, nI_add]) ?_
        refine go_virtP dReading_takeHead_89 ok_mBytes_value im_mBytes_value se_mBytes_value qm_Reading_158 hR.2.1.1 (a_Bytes_value hR.2.1 hN) ?_ (hnp := np_mBytes_value)
        refine go_if_ne (tgt := 109) dReading_takeHead_92 (fun c4 => ?_) (fun c4 => ?_)
        · refine go_iconst (v := 0) dReading_takeHead_109 (by decide) ?_
          refine go_iret dReading_takeHead_110 rfl rfl ?_ (Nat.le_of_ble_eq_true rfl) (Nat.le_of_ble_eq_true rfl)
          have hh : ¬ hdOk p a l := fun q => c4 (by rw [v6]; exact q.2.2.2.1)
          exact retX_e (by rw [bI_f hh]) ⟨by rw [if_neg hh]; exact hR, hs⟩
        · refine go_aload_n dReading_takeHead_95 rfl ?_
          refine go_getf dReading_takeHead_96 qf_Reading_14 hR.1 rfl ?_
          refine go_iload_n dReading_takeHead_99 rfl ?_
          refine go_bipush (v := 12) dReading_takeHead_100 (by decide) ?_
          refine go_iadd dReading_takeHead_102 ?_
          refine go_top (y := nI (a + 8 + 12)) (by show nI (a + 8) + 12 = _; rw [show (12 : Int32) = nI 12 from rfl, nI_add]) ?_
          refine go_virtP dReading_takeHead_103 ok_mBytes_value im_mBytes_value se_mBytes_value qm_Reading_158 hR.2.1.1 (a_Bytes_value hR.2.1 hN) ?_ (hnp := np_mBytes_value)
          refine go_if_eq (tgt := 111) dReading_takeHead_106 (fun c5 => ?_) (fun c5 => ?_)
          · obtain ⟨w5, h5, b5, k5, ho5, e5, e6, e7, e8⟩ := okHead_n c2
            have hw5 : w5 ≤ 12 ∧ h5 ≤ 12 := ho5.w
            have hb5 : 1 ≤ b5 ∧ b5 ≤ 8 := ho5.b
            have hk5 : k5 < 7 := ho5.k
            rw [e5, e6, e7, e8]
            refine go_aload_n dReading_takeHead_111 rfl ?_
            refine go_getf dReading_takeHead_112 qf_Reading_23 hR.1 rfl ?_
            refine go_iload_n dReading_takeHead_115 rfl ?_
            refine go_iload_n dReading_takeHead_116 rfl ?_
            refine go_iload dReading_takeHead_117 rfl ?_
            refine go_iload dReading_takeHead_119 rfl ?_
            refine go_virtX dReading_takeHead_121 ok_mPicture_begin im_mPicture_begin se_mPicture_begin qm_Reading_176 hR.2.2.1.1 (a_Picture_begin (w := w5) (hh := h5) (b := b5) (k := k5) ho5 hR.2.2.1) (fun hx6 d6 q6 => ?_) (hnp := np_mPicture_begin)
            have hR6 := hR.pic q6.1 q6.2
            have s6 := hs.trans (q6.2.sub (by omega) (by omega))
            refine go_aload_n dReading_takeHead_124 rfl ?_
            refine go_iconst (v := 1) dReading_takeHead_125 (by decide) ?_
            refine go_putf dReading_takeHead_126 qf_Reading_78 pw_4_11 hR6.1 rfl rfl ?_
            refine go_nm (fun hnk1 enk1 => ?_)
            have gsk1 : Sm hx6 hnk1 r 1 := by rw [enk1]; exact (Sm.put' (Sm.refl _ _ _) _ (by omega) (by omega))
            have hRk1 := ReA.put (g := upd S.2.2 8 1) hR6 ((congrFun enk1 r).trans (pmU_s _ _ _)) gsk1
            have sk1 := s6.trans (gsk1.sub (a := r) (n := 15) (by omega) (by omega))
            refine go_iconst (v := 1) dReading_takeHead_129 (by decide) ?_
            refine go_iret dReading_takeHead_130 rfl rfl ?_ (Nat.le_of_ble_eq_true rfl) (Nat.le_of_ble_eq_true rfl)
            have hh : hdOk p a l := ⟨e13, by rw [← v1, ← v2, ← v3, ← v4]; exact c2, by rw [← v5]; exact c3, by rw [← v6]; exact c4, by rw [← v7]; exact c5⟩
            exact retX_e (by rw [bI_t hh]) ⟨by rw [if_pos hh, hdS, ← v1, ← v2, ← v3, ← v4, e5, e6, e7, e8, nI_clamp (n := w5) (by omega), nI_clamp (n := h5) (by omega), nI_clamp (n := b5) (by omega), nI_clamp (n := k5) (by omega)]; exact hRk1, sk1⟩
          · refine go_iconst (v := 0) dReading_takeHead_109 (by decide) ?_
            refine go_iret dReading_takeHead_110 rfl rfl ?_ (Nat.le_of_ble_eq_true rfl) (Nat.le_of_ble_eq_true rfl)
            have hh : ¬ hdOk p a l := fun q => c5 (by rw [v7]; exact q.2.2.2.2)
            exact retX_e (by rw [bI_f hh]) ⟨by rw [if_neg hh]; exact hR, hs⟩
set_option maxHeartbeats 4000000 in
theorem l_Reading_takePalette {E : pmEv} {h0 : pmH} {z : Option Nat} {r : Nat} {p : aRow} {T : Bool} {π : aPic} {Rw : aRow} {g : Nat → Int32} {a l : Nat} {C : aRow} (hN : p.2 ≤ 2000) (hf : a + 12 + l ≤ p.2) (h3 : nI π.1.2.2.2 = 3) (he : l / 3 ≤ 64) : ∀ (n : Nat) (k : Nat) (c : aRow) (h : pmH) (d : Bool), k + n = l / 3 → c.2 = k → ReA h r p ((T, π.1, π.2.1, c, π.2.2.2), Rw, g) → Sm h0 h r 15 → C = plT p.1 (a + 8) n k c → Go E (mReading_takePalette, h0, 0, 0) 44 [some (.ref r), some (.int (nI (a + 8))), some (.int (nI (l / 3))), some (.int (nI (k))), none] [] (h, z, d) 0 0 (RetX (some (.int 1)) (fun h' => ReA h' r p ((T, π.1, π.2.1, C, π.2.2.2), Rw, g) ∧ Sm h0 h' r 15) z) := by
  intro n
  induction n with
  | zero =>
    intro k c h d hk hc hR hs hC
    refine go_iload_n dReading_takePalette_44 rfl ?_
    refine go_iload_n dReading_takePalette_45 rfl ?_
    refine go_icmp_ge (tgt := 117) dReading_takePalette_46 (fun c1 => ?_) (fun c1 => ?_)
    · refine go_iconst (v := 1) dReading_takePalette_117 (by decide) ?_
      refine go_iret dReading_takePalette_118 rfl rfl ?_ (Nat.le_of_ble_eq_true rfl) (Nat.le_of_ble_eq_true rfl)
      exact retX ⟨by rw [hC, plT]; exact hR, hs⟩
    · exact absurd (nI_le (a := l / 3) (b := k) (by omega) (by omega)) c1
  | succ n ih =>
    intro k c h d hk hc hR hs hC
    refine go_iload_n dReading_takePalette_44 rfl ?_
    refine go_iload_n dReading_takePalette_45 rfl ?_
    refine go_icmp_ge (tgt := 117) dReading_takePalette_46 (fun c1 => ?_) (fun c1 => ?_)
    · exact absurd c1 (nI_ge (a := k) (b := l / 3) (by omega) (by omega))
    · refine go_aload_n dReading_takePalette_49 rfl ?_
      refine go_getf dReading_takePalette_50 qf_Reading_23 hR.1 rfl ?_
      refine go_getf dReading_takePalette_53 qf_Reading_146 hR.2.2.1.1 rfl ?_
      refine go_iconst (v := 3) dReading_takePalette_56 (by decide) ?_
      refine go_icmp_ne (tgt := 117) dReading_takePalette_57 (fun c2 => ?_) (fun c2 => ?_)
      · exact absurd h3 c2
      · refine go_iload_n dReading_takePalette_60 rfl ?_
        refine go_iconst (v := 3) dReading_takePalette_61 (by decide) ?_
        refine go_iload_n dReading_takePalette_62 rfl ?_
        refine go_imul dReading_takePalette_63 ?_
        refine go_iadd dReading_takePalette_64 ?_
        refine go_top (y := nI (a + 8 + 3 * k)) (by show nI (a + 8) + 3 * nI k = _; rw [show (3 : Int32) = nI 3 from rfl, pk_mul, nI_add]) ?_
        refine go_istore dReading_takePalette_65 ?_
        refine go_aload_n dReading_takePalette_67 rfl ?_
        refine go_getf dReading_takePalette_68 qf_Reading_23 hR.1 rfl ?_
        refine go_getf dReading_takePalette_71 qf_Reading_193 hR.2.2.1.1 rfl ?_
        refine go_aload_n dReading_takePalette_74 rfl ?_
        refine go_getf dReading_takePalette_75 qf_Reading_14 hR.1 rfl ?_
        refine go_iload dReading_takePalette_78 rfl ?_
        refine go_virtP dReading_takePalette_80 ok_mBytes_value im_mBytes_value se_mBytes_value qm_Reading_158 hR.2.1.1 (a_Bytes_valN (j := a + 8 + 3 * k) hR.2.1 hN (by omega)) ?_ (hnp := np_mBytes_value)
        refine go_aload_n dReading_takePalette_83 rfl ?_
        refine go_getf dReading_takePalette_84 qf_Reading_14 hR.1 rfl ?_
        refine go_iload dReading_takePalette_87 rfl ?_
        refine go_iconst (v := 1) dReading_takePalette_89 (by decide) ?_
        refine go_iadd dReading_takePalette_90 ?_
        rw [nI_a1 (a + 8 + 3 * k)]
        refine go_virtP dReading_takePalette_91 ok_mBytes_value im_mBytes_value se_mBytes_value qm_Reading_158 hR.2.1.1 (a_Bytes_valN (j := a + 8 + 3 * k + 1) hR.2.1 hN (by omega)) ?_ (hnp := np_mBytes_value)
        refine go_aload_n dReading_takePalette_94 rfl ?_
        refine go_getf dReading_takePalette_95 qf_Reading_14 hR.1 rfl ?_
        refine go_iload dReading_takePalette_98 rfl ?_
        refine go_iconst (v := 2) dReading_takePalette_100 (by decide) ?_
        refine go_iadd dReading_takePalette_101 ?_
        rw [nI_a2 (a + 8 + 3 * k)]
        refine go_virtP dReading_takePalette_102 ok_mBytes_value im_mBytes_value se_mBytes_value qm_Reading_158 hR.2.1.1 (a_Bytes_valN (j := a + 8 + 3 * k + 2) hR.2.1 hN (by omega)) ?_ (hnp := np_mBytes_value)
        refine go_sipush (v := 255) dReading_takePalette_105 (by decide) ?_
        refine go_virtX dReading_takePalette_108 ok_mPalette_add im_mPalette_add se_mPalette_add qm_Reading_197 hR.2.2.1.2.1.1 (a_Palette_add (p := c) (by omega) hR.2.2.1.2.1) (fun hx3 d3 q3 => ?_) (hnp := np_mPalette_add)
        have hR3 := hR.pic (hR.2.2.1.pal q3.1 q3.2) (q3.2.sub (by omega) (by omega))
        have s3 := hs.trans (q3.2.sub (by omega) (by omega))
        refine go_iinc dReading_takePalette_111 rfl (congrArg (_ + ·) lit1) ?_
        refine go_goto (tgt := 44) dReading_takePalette_114 ?_
        refine go_fg 4 ?_
        exact go_at (ih (k + 1) _ hx3 d3 (by omega) (congrArg (· + 1) hc) hR3 s3 (by rw [hC, plT])) rfl (by rw [nI_succ k]; rfl) rfl rfl
set_option maxHeartbeats 4000000 in
theorem l_Reading_takePalette_no {E : pmEv} {h0 h : pmH} {z : Option Nat} {d : Bool} {r : Nat} {p : aRow} {T : Bool} {π : aPic} {Rw : aRow} {g : Nat → Int32} {a l : Nat} (hl : l ≤ 255) (h3 : ¬ nI π.1.2.2.2 = 3) (hR : ReA h r p ((T, π), Rw, g)) (hs : Sm h0 h r 15) : Go E (mReading_takePalette, h0, 0, 0) 44 [some (.ref r), some (.int (nI (a + 8))), some (.int (nI (l / 3))), some (.int (nI (0))), none] [] (h, z, d) 0 0 (RetX (some (.int 1)) (fun h' => ReA h' r p ((T, π), Rw, g) ∧ Sm h0 h' r 15) z) := by
  refine go_iload_n dReading_takePalette_44 rfl ?_
  refine go_iload_n dReading_takePalette_45 rfl ?_
  refine go_icmp_ge (tgt := 117) dReading_takePalette_46 (fun c1 => ?_) (fun c1 => ?_)
  · refine go_iconst (v := 1) dReading_takePalette_117 (by decide) ?_
    refine go_iret dReading_takePalette_118 rfl rfl ?_ (Nat.le_of_ble_eq_true rfl) (Nat.le_of_ble_eq_true rfl)
    exact retX ⟨hR, hs⟩
  · refine go_aload_n dReading_takePalette_49 rfl ?_
    refine go_getf dReading_takePalette_50 qf_Reading_23 hR.1 rfl ?_
    refine go_getf dReading_takePalette_53 qf_Reading_146 hR.2.2.1.1 rfl ?_
    refine go_iconst (v := 3) dReading_takePalette_56 (by decide) ?_
    refine go_icmp_ne (tgt := 117) dReading_takePalette_57 (fun c2 => ?_) (fun c2 => ?_)
    · refine go_iconst (v := 1) dReading_takePalette_117 (by decide) ?_
      refine go_iret dReading_takePalette_118 rfl rfl ?_ (Nat.le_of_ble_eq_true rfl) (Nat.le_of_ble_eq_true rfl)
      exact retX ⟨hR, hs⟩
    · exact absurd c2 h3
set_option maxHeartbeats 4000000 in
theorem a_Reading_takePalette {E : pmEv} {h : pmH} {z : Option Nat} {r : Nat} {p : aRow} {S : aRs} {a l : Nat} (ha : S.2.2 2 = nI a) (hl : S.2.2 5 = nI l) (hl2 : l ≤ 255) (hf : a + 12 + l ≤ p.2) (hc : nI S.1.2.1.2.2.2 = 3 → S.1.2.2.2.1.2 = 0) (hN : p.2 ≤ 2000) (hR : ReA h r p S) : Call E mReading_takePalette [.ref r, .int (nI (a + 8))] h z 0 0 (RetX (some (.int (bI (plOk l S.1.2.1.2.2.1)))) (fun h' => ReA h' r p (if plOk l S.1.2.1.2.2.1 then plS p a l S else S) ∧ Sm h h' r 15) z) := by
  have hs : Sm h h r 15 := Sm.refl _ _ _
  have hb := hR.2.2.1.2.2.2.2.2.b
  refine call_of (L := [some (.ref r), some (.int (nI (a + 8))), none, none, none]) ok_mReading_takePalette (Nat.le_of_ble_eq_true rfl) ?_
  refine go_aload_n dReading_takePalette_0 rfl ?_
  refine go_getf dReading_takePalette_1 qf_Reading_59 hR.1 rfl ?_
  refine go_iconst (v := 3) dReading_takePalette_4 (by decide) ?_
  refine go_idiv dReading_takePalette_5 (by decide) ?_
  refine go_top (y := nI (l / 3)) (by show S.2.2 5 / 3 = _; rw [hl]; exact pk_div (d := 3) (by omega) (by omega) (by omega)) ?_
  refine go_istore_n dReading_takePalette_6 ?_
  refine go_aload_n dReading_takePalette_7 rfl ?_
  refine go_getf dReading_takePalette_8 qf_Reading_59 hR.1 rfl ?_
  refine go_iconst (v := 3) dReading_takePalette_11 (by decide) ?_
  refine go_irem dReading_takePalette_12 (by decide) ?_
  refine go_top (y := nI (l % 3)) (by show S.2.2 5 - S.2.2 5 / 3 * 3 = _; rw [hl]; exact pk_rem (d := 3) (by omega) (by omega) (by omega)) ?_
  refine go_if_ne (tgt := 35) dReading_takePalette_13 (fun c1 => ?_) (fun c1 => ?_)
  · refine go_iconst (v := 0) dReading_takePalette_35 (by decide) ?_
    refine go_iret dReading_takePalette_36 rfl rfl ?_ (Nat.le_of_ble_eq_true rfl) (Nat.le_of_ble_eq_true rfl)
    have hh : ¬ plOk l S.1.2.1.2.2.1 := fun q => c1 (by rw [q.1]; rfl)
    exact retX_e (by rw [bI_f hh]) ⟨by rw [if_neg hh]; exact hR, hs⟩
  · refine go_iload_n dReading_takePalette_16 rfl ?_
    refine go_iconst (v := 1) dReading_takePalette_17 (by decide) ?_
    refine go_icmp_lt (tgt := 35) dReading_takePalette_18 (fun c2 => ?_) (fun c2 => ?_)
    · refine go_iconst (v := 0) dReading_takePalette_35 (by decide) ?_
      refine go_iret dReading_takePalette_36 rfl rfl ?_ (Nat.le_of_ble_eq_true rfl) (Nat.le_of_ble_eq_true rfl)
      have hh : ¬ plOk l S.1.2.1.2.2.1 := fun q => absurd c2 (Int32.not_lt.mpr (nI_le (a := 1) q.2.1 (by omega)))
      exact retX_e (by rw [bI_f hh]) ⟨by rw [if_neg hh]; exact hR, hs⟩
    · refine go_iload_n dReading_takePalette_21 rfl ?_
      refine go_aload_n dReading_takePalette_22 rfl ?_
      refine go_getf dReading_takePalette_23 qf_Reading_23 hR.1 rfl ?_
      refine go_getf dReading_takePalette_26 qf_Reading_185 hR.2.2.1.1 rfl ?_
      refine go_statP dReading_takePalette_29 ok_mPalette_most st_mPalette_most qm_Reading_188 c_Palette_most ?_ (hnp := np_mPalette_most)
      rw [mst_n hb.2]
      refine go_icmp_le (tgt := 37) dReading_takePalette_32 (fun c3 => ?_) (fun c3 => ?_)
      · refine go_aload_n dReading_takePalette_37 rfl ?_
        refine go_iconst (v := 1) dReading_takePalette_38 (by decide) ?_
        refine go_putf dReading_takePalette_39 qf_Reading_81 pw_4_12 hR.1 rfl rfl ?_
        refine go_nm (fun hnk1 enk1 => ?_)
        have gsk1 : Sm h hnk1 r 1 := by rw [enk1]; exact (Sm.put' (Sm.refl _ _ _) _ (by omega) (by omega))
        have hRk1 := ReA.put (g := upd S.2.2 9 1) hR ((congrFun enk1 r).trans (pmU_s _ _ _)) gsk1
        have sk1 := hs.trans (gsk1.sub (a := r) (n := 15) (by omega) (by omega))
        refine go_iconst (v := 0) dReading_takePalette_42 (by decide) ?_
        refine go_istore_n dReading_takePalette_43 ?_
        have hh : plOk l S.1.2.1.2.2.1 := ⟨(nI_inj (b := 0) (by omega) (by omega)).mp c1, Nat.not_lt.mp fun q => c2 (nI_lt (b := 1) q (by omega)), (nI_leI (by omega) (by omega)).mp c3⟩
        have hm : l / 3 ≤ 64 := Nat.le_trans hh.2.2 (Nat.min_le_left _ _)
        by_cases h3 : nI S.1.2.1.2.2.2 = 3
        · exact (l_Reading_takePalette (π := S.1.2) hN hf h3 hm (l / 3) 0 S.1.2.2.2.1 _ _ (by omega) (hc h3) hRk1 sk1 rfl).mono fun o X q => ⟨by rw [bI_t hh]; exact q.1, by rw [if_pos hh, plS, if_pos h3]; exact q.2.1, q.2.2⟩
        · exact (l_Reading_takePalette_no (π := S.1.2) hl2 h3 hRk1 sk1).mono fun o X q => ⟨by rw [bI_t hh]; exact q.1, by rw [if_pos hh, plS, if_neg h3]; exact q.2.1, q.2.2⟩
      · refine go_iconst (v := 0) dReading_takePalette_35 (by decide) ?_
        refine go_iret dReading_takePalette_36 rfl rfl ?_ (Nat.le_of_ble_eq_true rfl) (Nat.le_of_ble_eq_true rfl)
        have hh : ¬ plOk l S.1.2.1.2.2.1 := fun q => c3 (nI_le q.2.2 (by omega))
        exact retX_e (by rw [bI_f hh]) ⟨by rw [if_neg hh]; exact hR, hs⟩
set_option maxHeartbeats 4000000 in
theorem l_Reading_takeAlphas {E : pmEv} {h0 : pmH} {z : Option Nat} {r : Nat} {p : aRow} {T : Bool} {π : aPic} {Rw : aRow} {g : Nat → Int32} {a l : Nat} {C : aRow} (hN : p.2 ≤ 2000) (hf : a + 12 + l ≤ p.2) (hg : g 5 = nI l) : ∀ (n : Nat) (k : Nat) (c : aRow) (h : pmH) (d : Bool), k + n = l → l ≤ c.2 → ReA h r p ((T, π.1, π.2.1, c, π.2.2.2), Rw, g) → Sm h0 h r 15 → C = alT p.1 (a + 8) n k c → Go E (mReading_takeAlphas, h0, 0, 0) 45 [some (.ref r), some (.int (nI (a + 8))), some (.int (nI (k)))] [] (h, z, d) 0 0 (RetX (some (.int 1)) (fun h' => ReA h' r p ((T, π.1, π.2.1, C, π.2.2.2), Rw, g) ∧ Sm h0 h' r 15) z) := by
  intro n
  induction n with
  | zero =>
    intro k c h d hk hc hR hs hC
    refine go_iload_n dReading_takeAlphas_45 rfl ?_
    refine go_aload_n dReading_takeAlphas_46 rfl ?_
    refine go_getf dReading_takeAlphas_47 qf_Reading_59 hR.1 rfl ?_
    refine go_top (y := nI l) (by show g 5 = _; exact hg) ?_
    refine go_icmp_ge (tgt := 80) dReading_takeAlphas_50 (fun c1 => ?_) (fun c1 => ?_)
    · refine go_iconst (v := 1) dReading_takeAlphas_80 (by decide) ?_
      refine go_iret dReading_takeAlphas_81 rfl rfl ?_ (Nat.le_of_ble_eq_true rfl) (Nat.le_of_ble_eq_true rfl)
      exact retX ⟨by rw [hC, alT]; exact hR, hs⟩
    · exact absurd (nI_le (a := l) (b := k) (by omega) (by omega)) c1
  | succ n ih =>
    intro k c h d hk hc hR hs hC
    refine go_iload_n dReading_takeAlphas_45 rfl ?_
    refine go_aload_n dReading_takeAlphas_46 rfl ?_
    refine go_getf dReading_takeAlphas_47 qf_Reading_59 hR.1 rfl ?_
    refine go_top (y := nI l) (by show g 5 = _; exact hg) ?_
    refine go_icmp_ge (tgt := 80) dReading_takeAlphas_50 (fun c1 => ?_) (fun c1 => ?_)
    · exact absurd c1 (nI_ge (a := k) (b := l) (by omega) (by omega))
    · refine go_aload_n dReading_takeAlphas_53 rfl ?_
      refine go_getf dReading_takeAlphas_54 qf_Reading_23 hR.1 rfl ?_
      refine go_getf dReading_takeAlphas_57 qf_Reading_193 hR.2.2.1.1 rfl ?_
      refine go_iload_n dReading_takeAlphas_60 rfl ?_
      refine go_aload_n dReading_takeAlphas_61 rfl ?_
      refine go_getf dReading_takeAlphas_62 qf_Reading_14 hR.1 rfl ?_
      refine go_iload_n dReading_takeAlphas_65 rfl ?_
      refine go_iload_n dReading_takeAlphas_66 rfl ?_
      refine go_iadd dReading_takeAlphas_67 ?_
      rw [nI_add]
      refine go_virtP dReading_takeAlphas_68 ok_mBytes_value im_mBytes_value se_mBytes_value qm_Reading_158 hR.2.1.1 (a_Bytes_valN (j := a + 8 + k) hR.2.1 hN (by omega)) ?_ (hnp := np_mBytes_value)
      refine go_virtX dReading_takeAlphas_71 ok_mPalette_setAlpha im_mPalette_setAlpha se_mPalette_setAlpha qm_Reading_203 hR.2.2.1.2.1.1 (a_Palette_setAlpha (p := c) (k := k) (by omega) hR.2.2.1.2.1) (fun hx2 d2 q2 => ?_) (hnp := np_mPalette_setAlpha)
      have hR2 := hR.pic (hR.2.2.1.pal q2.1 q2.2) (q2.2.sub (by omega) (by omega))
      have s2 := hs.trans (q2.2.sub (by omega) (by omega))
      refine go_iinc dReading_takeAlphas_74 rfl (congrArg (_ + ·) lit1) ?_
      refine go_goto (tgt := 45) dReading_takeAlphas_77 ?_
      exact go_at (ih (k + 1) (upd c.1 (4 * k + 3) (p.1 (a + 8 + k)), c.2) hx2 d2 (by omega) hc hR2 s2 (by rw [hC, alT])) rfl (by rw [nI_succ k]; rfl) rfl rfl
set_option maxHeartbeats 4000000 in
theorem a_Reading_takeAlphas {E : pmEv} {h : pmH} {z : Option Nat} {r : Nat} {p : aRow} {S : aRs} {a l : Nat} (ha : S.2.2 2 = nI a) (hl : S.2.2 5 = nI l) (hl2 : l ≤ 255) (hf : a + 12 + l ≤ p.2) (hN : p.2 ≤ 2000) (hR : ReA h r p S) : Call E mReading_takeAlphas [.ref r, .int (nI (a + 8))] h z 0 0 (RetX (some (.int (bI (alOk l S.1.2)))) (fun h' => ReA h' r p (if alOk l S.1.2 then alS p a l S else S) ∧ Sm h h' r 15) z) := by
  have hs : Sm h h r 15 := Sm.refl _ _ _
  have hc64 := hR.2.2.1.2.1.2.2
  refine call_of (L := [some (.ref r), some (.int (nI (a + 8))), none]) ok_mReading_takeAlphas (Nat.le_of_ble_eq_true rfl) ?_
  refine go_aload_n dReading_takeAlphas_0 rfl ?_
  refine go_getf dReading_takeAlphas_1 qf_Reading_23 hR.1 rfl ?_
  refine go_getf dReading_takeAlphas_4 qf_Reading_146 hR.2.2.1.1 rfl ?_
  refine go_iconst (v := 3) dReading_takeAlphas_7 (by decide) ?_
  refine go_icmp_ne (tgt := 36) dReading_takeAlphas_8 (fun c1 => ?_) (fun c1 => ?_)
  · refine go_iconst (v := 0) dReading_takeAlphas_36 (by decide) ?_
    refine go_iret dReading_takeAlphas_37 rfl rfl ?_ (Nat.le_of_ble_eq_true rfl) (Nat.le_of_ble_eq_true rfl)
    have hh : ¬ alOk l S.1.2 := fun q => c1 q.1
    exact retX_e (by rw [bI_f hh]) ⟨by rw [if_neg hh]; exact hR, hs⟩
  · refine go_aload_n dReading_takeAlphas_11 rfl ?_
    refine go_getf dReading_takeAlphas_12 qf_Reading_59 hR.1 rfl ?_
    rw [hl]
    refine go_iconst (v := 1) dReading_takeAlphas_15 (by decide) ?_
    refine go_icmp_lt (tgt := 36) dReading_takeAlphas_16 (fun c2 => ?_) (fun c2 => ?_)
    · refine go_iconst (v := 0) dReading_takeAlphas_36 (by decide) ?_
      refine go_iret dReading_takeAlphas_37 rfl rfl ?_ (Nat.le_of_ble_eq_true rfl) (Nat.le_of_ble_eq_true rfl)
      have hh : ¬ alOk l S.1.2 := fun q => absurd c2 (Int32.not_lt.mpr (nI_le (a := 1) q.2.1 (by omega)))
      exact retX_e (by rw [bI_f hh]) ⟨by rw [if_neg hh]; exact hR, hs⟩
    · refine go_aload_n dReading_takeAlphas_19 rfl ?_
      refine go_getf dReading_takeAlphas_20 qf_Reading_59 hR.1 rfl ?_
      rw [hl]
      refine go_aload_n dReading_takeAlphas_23 rfl ?_
      refine go_getf dReading_takeAlphas_24 qf_Reading_23 hR.1 rfl ?_
      refine go_getf dReading_takeAlphas_27 qf_Reading_193 hR.2.2.1.1 rfl ?_
      refine go_getf dReading_takeAlphas_30 qf_Reading_200 hR.2.2.1.2.1.1 rfl ?_
      refine go_icmp_le (tgt := 38) dReading_takeAlphas_33 (fun c3 => ?_) (fun c3 => ?_)
      · refine go_aload_n dReading_takeAlphas_38 rfl ?_
        refine go_iconst (v := 1) dReading_takeAlphas_39 (by decide) ?_
        refine go_putf dReading_takeAlphas_40 qf_Reading_84 pw_4_13 hR.1 rfl rfl ?_
        refine go_nm (fun hnk1 enk1 => ?_)
        have gsk1 : Sm h hnk1 r 1 := by rw [enk1]; exact (Sm.put' (Sm.refl _ _ _) _ (by omega) (by omega))
        have hRk1 := ReA.put (g := upd S.2.2 10 1) hR ((congrFun enk1 r).trans (pmU_s _ _ _)) gsk1
        have sk1 := hs.trans (gsk1.sub (a := r) (n := 15) (by omega) (by omega))
        refine go_iconst (v := 0) dReading_takeAlphas_43 (by decide) ?_
        refine go_istore_n dReading_takeAlphas_44 ?_
        have hh : alOk l S.1.2 := ⟨c1, Nat.not_lt.mp fun q => c2 (nI_lt (b := 1) q (by omega)), (nI_leI (by omega) (by omega)).mp c3⟩
        exact (l_Reading_takeAlphas (π := S.1.2) (g := upd S.2.2 10 1) hN hf (show upd S.2.2 10 1 5 = nI l from hl) l 0 S.1.2.2.2.1 _ _ (by omega) hh.2.2 hRk1 sk1 rfl).mono fun o X q => ⟨by rw [bI_t hh]; exact q.1, by rw [if_pos hh]; exact q.2.1, q.2.2⟩
      · refine go_iconst (v := 0) dReading_takeAlphas_36 (by decide) ?_
        refine go_iret dReading_takeAlphas_37 rfl rfl ?_ (Nat.le_of_ble_eq_true rfl) (Nat.le_of_ble_eq_true rfl)
        have hh : ¬ alOk l S.1.2 := fun q => c3 (nI_le q.2.2 (by omega))
        exact retX_e (by rw [bI_f hh]) ⟨by rw [if_neg hh]; exact hR, hs⟩
set_option maxHeartbeats 4000000 in
theorem l_Reading_takeRows {E : pmEv} {h0 : pmH} {z : Option Nat} {r : Nat} {p : aRow} {P : Bool × aPic} {g : Nat → Int32} {a l : Nat} {C : aRow} (hN : p.2 ≤ 2000) (hl2 : l ≤ 255) (hf : a + 12 + l ≤ p.2) (hg : g 5 = nI l) : ∀ (n : Nat) (i : Nat) (c : aRow) (h : pmH) (d : Bool), i + n = l → ReA h r p (P, c, g) → Sm h0 h r 15 → C = wAs (fun i => p.1 (a + 8 + i)) i n c → Go E (mReading_takeRows, h0, 0, 0) 20 [some (.ref r), some (.int (nI (a + 8))), some (.int (nI (i)))] [] (h, z, d) 0 0 (RetX (some (.int 1)) (fun h' => ReA h' r p (P, C, g) ∧ Sm h0 h' r 15) z) := by
  intro n
  induction n with
  | zero =>
    intro i c h d hi hR hs hC
    refine go_iload_n dReading_takeRows_20 rfl ?_
    refine go_aload_n dReading_takeRows_21 rfl ?_
    refine go_getf dReading_takeRows_22 qf_Reading_59 hR.1 rfl ?_
    refine go_top (y := nI l) (by show g 5 = _; exact hg) ?_
    refine go_icmp_ge (tgt := 51) dReading_takeRows_25 (fun c1 => ?_) (fun c1 => ?_)
    · refine go_iconst (v := 1) dReading_takeRows_51 (by decide) ?_
      refine go_iret dReading_takeRows_52 rfl rfl ?_ (Nat.le_of_ble_eq_true rfl) (Nat.le_of_ble_eq_true rfl)
      exact retX ⟨by rw [hC, wAs]; exact hR, hs⟩
    · exact absurd (nI_le (a := l) (b := i) (by omega) (by omega)) c1
  | succ n ih =>
    intro i c h d hi hR hs hC
    refine go_iload_n dReading_takeRows_20 rfl ?_
    refine go_aload_n dReading_takeRows_21 rfl ?_
    refine go_getf dReading_takeRows_22 qf_Reading_59 hR.1 rfl ?_
    refine go_top (y := nI l) (by show g 5 = _; exact hg) ?_
    refine go_icmp_ge (tgt := 51) dReading_takeRows_25 (fun c1 => ?_) (fun c1 => ?_)
    · exact absurd c1 (nI_ge (a := i) (b := l) (by omega) (by omega))
    · refine go_aload_n dReading_takeRows_28 rfl ?_
      refine go_getf dReading_takeRows_29 qf_Reading_29 hR.1 rfl ?_
      refine go_aload_n dReading_takeRows_32 rfl ?_
      refine go_getf dReading_takeRows_33 qf_Reading_14 hR.1 rfl ?_
      refine go_iload_n dReading_takeRows_36 rfl ?_
      refine go_iload_n dReading_takeRows_37 rfl ?_
      refine go_iadd dReading_takeRows_38 ?_
      rw [nI_add]
      refine go_virtP dReading_takeRows_39 ok_mBytes_value im_mBytes_value se_mBytes_value qm_Reading_158 hR.2.1.1 (a_Bytes_valN (j := a + 8 + i) hR.2.1 hN (by omega)) ?_ (hnp := np_mBytes_value)
      refine go_virtX dReading_takeRows_42 ok_mBytes_add im_mBytes_add se_mBytes_add qm_Reading_206 hR.2.2.2.1 (a_Bytes_add hR.2.2.2) (fun hx2 d2 q2 => ?_) (hnp := np_mBytes_add)
      have hR2 := hR.row q2.1 q2.2
      have s2 := hs.trans (q2.2.sub (by omega) (by omega))
      refine go_iinc dReading_takeRows_45 rfl (congrArg (_ + ·) lit1) ?_
      refine go_goto (tgt := 20) dReading_takeRows_48 ?_
      exact go_at (ih (i + 1) _ hx2 d2 (by omega) hR2 s2 (by rw [hC, wAs])) rfl (by rw [nI_succ i]; rfl) rfl rfl
set_option maxHeartbeats 4000000 in
theorem a_Reading_takeRows {E : pmEv} {h : pmH} {z : Option Nat} {r : Nat} {p : aRow} {S : aRs} {a l : Nat} (ha : S.2.2 2 = nI a) (hl : S.2.2 5 = nI l) (hl2 : l ≤ 255) (hf : a + 12 + l ≤ p.2) (hN : p.2 ≤ 2000) (hR : ReA h r p S) : Call E mReading_takeRows [.ref r, .int (nI (a + 8))] h z 0 0 (RetX (some (.int 1)) (fun h' => ReA h' r p (rwS p a l S) ∧ Sm h h' r 15) z) := by
  have hs : Sm h h r 15 := Sm.refl _ _ _
  refine call_of (L := [some (.ref r), some (.int (nI (a + 8))), none]) ok_mReading_takeRows (Nat.le_of_ble_eq_true rfl) ?_
  refine go_aload_n dReading_takeRows_0 rfl ?_
  refine go_iconst (v := 1) dReading_takeRows_1 (by decide) ?_
  refine go_putf dReading_takeRows_2 qf_Reading_87 pw_4_14 hR.1 rfl rfl ?_
  refine go_aload_n dReading_takeRows_5 rfl ?_
  refine go_dup dReading_takeRows_6 rfl ?_
  refine go_getf dReading_takeRows_7 qf_Reading_72 (pmU_s _ _ _) rfl ?_
  refine go_aload_n dReading_takeRows_10 rfl ?_
  refine go_getf dReading_takeRows_11 qf_Reading_59 (pmU_s _ _ _) rfl ?_
  refine go_iadd dReading_takeRows_14 ?_
  refine go_putf dReading_takeRows_15 qf_Reading_72 pw_4_10 (pmU_s _ _ _) rfl rfl ?_
  refine go_nm (fun hnk1 enk1 => ?_)
  have gsk1 : Sm h hnk1 r 1 := by rw [enk1]; exact (Sm.put' (Sm.put' (Sm.refl _ _ _) _ (by omega) (by omega)) _ (by omega) (by omega))
  have hRk1 := ReA.put (g := upd (upd S.2.2 11 1) 7 (S.2.2 7 + S.2.2 5)) hR ((congrFun enk1 r).trans (pmU_s _ _ _)) gsk1
  have sk1 := hs.trans (gsk1.sub (a := r) (n := 15) (by omega) (by omega))
  refine go_iconst (v := 0) dReading_takeRows_18 (by decide) ?_
  refine go_istore_n dReading_takeRows_19 ?_
  exact l_Reading_takeRows (g := upd (upd S.2.2 11 1) 7 (S.2.2 7 + S.2.2 5)) hN hl2 hf (show S.2.2 5 = nI l from hl) l 0 S.2.1 _ _ (by omega) hRk1 sk1 rfl
set_option maxHeartbeats 4000000 in
theorem l_Reading_takeExtra {E : pmEv} {h0 : pmH} {z : Option Nat} {r : Nat} {p : aRow} {T : Bool} {π : aPic} {Rw : aRow} {g : Nat → Int32} {a l : Nat} {C : aExt} {k : Nat} (hN : p.2 ≤ 2000) (hl40 : l ≤ 40) (hf : a + 12 + l ≤ p.2) (hg : g 5 = nI l) (hk : k < 6) : ∀ (n : Nat) (i : Nat) (e : aExt) (h : pmH) (d : Bool), i + n = l → e.2.2.2 = k + 1 → e.2.1 k = i → ReA h r p ((T, π.1, π.2.1, π.2.2.1, π.2.2.2.1, e), Rw, g) → Sm h0 h r 15 → C = exB p.1 (a + 8) k n i e → Go E (mReading_takeExtra, h0, 0, 0) 51 [some (.ref r), some (.int (nI (a + 8))), some (.int (nI k)), some (.int (nI (i)))] [] (h, z, d) 0 0 (RetX (some (.int 1)) (fun h' => ReA h' r p ((T, π.1, π.2.1, π.2.2.1, π.2.2.2.1, C), Rw, g) ∧ Sm h0 h' r 15) z) := by
  intro n
  induction n with
  | zero =>
    intro i e h d hi he hz hR hs hC
    refine go_iload_n dReading_takeExtra_51 rfl ?_
    refine go_aload_n dReading_takeExtra_52 rfl ?_
    refine go_getf dReading_takeExtra_53 qf_Reading_59 hR.1 rfl ?_
    refine go_top (y := nI l) (by show g 5 = _; exact hg) ?_
    refine go_icmp_ge (tgt := 86) dReading_takeExtra_56 (fun c1 => ?_) (fun c1 => ?_)
    · refine go_iconst (v := 1) dReading_takeExtra_86 (by decide) ?_
      refine go_iret dReading_takeExtra_87 rfl rfl ?_ (Nat.le_of_ble_eq_true rfl) (Nat.le_of_ble_eq_true rfl)
      exact retX ⟨by rw [hC, exB]; exact hR, hs⟩
    · exact absurd (nI_le (a := l) (b := i) (by omega) (by omega)) c1
  | succ n ih =>
    intro i e h d hi he hz hR hs hC
    refine go_iload_n dReading_takeExtra_51 rfl ?_
    refine go_aload_n dReading_takeExtra_52 rfl ?_
    refine go_getf dReading_takeExtra_53 qf_Reading_59 hR.1 rfl ?_
    refine go_top (y := nI l) (by show g 5 = _; exact hg) ?_
    refine go_icmp_ge (tgt := 86) dReading_takeExtra_56 (fun c1 => ?_) (fun c1 => ?_)
    · exact absurd c1 (nI_ge (a := i) (b := l) (by omega) (by omega))
    · refine go_aload_n dReading_takeExtra_59 rfl ?_
      refine go_getf dReading_takeExtra_60 qf_Reading_23 hR.1 rfl ?_
      refine go_getf dReading_takeExtra_63 qf_Reading_210 hR.2.2.1.1 rfl ?_
      refine go_iload_n dReading_takeExtra_66 rfl ?_
      refine go_aload_n dReading_takeExtra_67 rfl ?_
      refine go_getf dReading_takeExtra_68 qf_Reading_14 hR.1 rfl ?_
      refine go_iload_n dReading_takeExtra_71 rfl ?_
      refine go_iload_n dReading_takeExtra_72 rfl ?_
      refine go_iadd dReading_takeExtra_73 ?_
      rw [nI_add]
      refine go_virtP dReading_takeExtra_74 ok_mBytes_value im_mBytes_value se_mBytes_value qm_Reading_158 hR.2.1.1 (a_Bytes_valN (j := a + 8 + i) hR.2.1 hN (by omega)) ?_ (hnp := np_mBytes_value)
      refine go_virtX dReading_takeExtra_77 ok_mExtras_addByte im_mExtras_addByte se_mExtras_addByte qm_Reading_219 hR.2.2.1.2.2.2.1.1 (a_Extras_addByte (e := e) (k := k) (by omega) (by omega) hR.2.2.1.2.2.2.1) (fun hx2 d2 q2 => ?_) (hnp := np_mExtras_addByte)
      have hR2 := hR.pic (hR.2.2.1.ext q2.1 q2.2) (q2.2.sub (by omega) (by omega))
      have s2 := hs.trans (q2.2.sub (by omega) (by omega))
      refine go_iinc dReading_takeExtra_80 rfl (congrArg (_ + ·) lit1) ?_
      refine go_goto (tgt := 51) dReading_takeExtra_83 ?_
      exact go_at (ih (i + 1) (exAddB e k (p.1 (a + 8 + i))) hx2 d2 (by omega) he (by show updN e.2.1 k (e.2.1 k + 1) k = _; rw [updN_s, hz]) hR2 s2 (by rw [hC, exB])) rfl (by rw [nI_succ i]; rfl) rfl rfl
set_option maxHeartbeats 4000000 in
theorem a_Reading_takeExtra {E : pmEv} {h : pmH} {z : Option Nat} {r : Nat} {p : aRow} {S : aRs} {a l : Nat} (ha : S.2.2 2 = nI a) (hl : S.2.2 5 = nI l) (hl2 : l ≤ 255) (hf : a + 12 + l ≤ p.2) (hN : p.2 ≤ 2000) (hR : ReA h r p S) : Call E mReading_takeExtra [.ref r, .int (nI (a + 8))] h z 0 0 (RetX (some (.int (bI (exK l S.1.2)))) (fun h' => ReA h' r p (if exK l S.1.2 then exS p a l S else S) ∧ Sm h h' r 15) z) := by
  have hs : Sm h h r 15 := Sm.refl _ _ _
  refine call_of (L := [some (.ref r), some (.int (nI (a + 8))), none, none]) ok_mReading_takeExtra (Nat.le_of_ble_eq_true rfl) ?_
  refine go_aload_n dReading_takeExtra_0 rfl ?_
  refine go_getf dReading_takeExtra_1 qf_Reading_59 hR.1 rfl ?_
  rw [hl]
  refine go_bipush (v := 40) dReading_takeExtra_4 (by decide) ?_
  refine go_icmp_gt (tgt := 22) dReading_takeExtra_6 (fun c1 => ?_) (fun c1 => ?_)
  · refine go_iconst (v := 0) dReading_takeExtra_22 (by decide) ?_
    refine go_iret dReading_takeExtra_23 rfl rfl ?_ (Nat.le_of_ble_eq_true rfl) (Nat.le_of_ble_eq_true rfl)
    have hh : ¬ exK l S.1.2 := fun q => absurd c1 (Int32.not_lt.mpr (nI_le (b := 40) q.1 (by omega)))
    exact retX_e (by rw [bI_f hh]) ⟨by rw [if_neg hh]; exact hR, hs⟩
  · refine go_aload_n dReading_takeExtra_9 rfl ?_
    refine go_getf dReading_takeExtra_10 qf_Reading_23 hR.1 rfl ?_
    refine go_getf dReading_takeExtra_13 qf_Reading_210 hR.2.2.1.1 rfl ?_
    refine go_virtP dReading_takeExtra_16 ok_mExtras_isFull im_mExtras_isFull se_mExtras_isFull qm_Reading_214 hR.2.2.1.2.2.2.1.1 (a_Extras_isFull hR.2.2.1.2.2.2.1) ?_ (hnp := np_mExtras_isFull)
    refine go_ifeq_b (tgt := 24) dReading_takeExtra_19 (fun c2 => ?_) (fun c2 => ?_)
    · refine go_aload_n dReading_takeExtra_24 rfl ?_
      refine go_getf dReading_takeExtra_25 qf_Reading_23 hR.1 rfl ?_
      refine go_getf dReading_takeExtra_28 qf_Reading_210 hR.2.2.1.1 rfl ?_
      refine go_getf dReading_takeExtra_31 qf_Reading_217 hR.2.2.1.2.2.2.1.1 rfl ?_
      refine go_istore_n dReading_takeExtra_34 ?_
      refine go_aload_n dReading_takeExtra_35 rfl ?_
      refine go_getf dReading_takeExtra_36 qf_Reading_23 hR.1 rfl ?_
      refine go_getf dReading_takeExtra_39 qf_Reading_210 hR.2.2.1.1 rfl ?_
      refine go_aload_n dReading_takeExtra_42 rfl ?_
      refine go_getf dReading_takeExtra_43 qf_Reading_47 hR.1 rfl ?_
      refine go_virtX dReading_takeExtra_46 ok_mExtras_add im_mExtras_add se_mExtras_add qm_Reading_218 hR.2.2.1.2.2.2.1.1 (a_Extras_add (Nat.not_le.mp c2) hR.2.2.1.2.2.2.1) (fun hx3 d3 q3 => ?_) (hnp := np_mExtras_add)
      have hR3 := hR.pic (hR.2.2.1.ext q3.1 q3.2) (q3.2.sub (by omega) (by omega))
      have s3 := hs.trans (q3.2.sub (by omega) (by omega))
      refine go_iconst (v := 0) dReading_takeExtra_49 (by decide) ?_
      refine go_istore_n dReading_takeExtra_50 ?_
      have hh : exK l S.1.2 := ⟨Nat.not_lt.mp fun q => c1 (nI_lt (a := 40) q (by omega)), Nat.not_le.mp c2⟩
      exact (l_Reading_takeExtra (π := S.1.2) hN hh.1 hf (show S.2.2 5 = nI l from hl) hh.2 l 0 _ _ _ (by omega) rfl updN_s hR3 s3 rfl).mono fun o X q => ⟨by rw [bI_t hh]; exact q.1, by rw [if_pos hh]; exact q.2.1, q.2.2⟩
    · refine go_iconst (v := 0) dReading_takeExtra_22 (by decide) ?_
      refine go_iret dReading_takeExtra_23 rfl rfl ?_ (Nat.le_of_ble_eq_true rfl) (Nat.le_of_ble_eq_true rfl)
      have hh : ¬ exK l S.1.2 := fun q => absurd c2 (Nat.not_le.mpr q.2)
      exact retX_e (by rw [bI_f hh]) ⟨by rw [if_neg hh]; exact hR, hs⟩
set_option maxHeartbeats 4000000 in
theorem a_Reading_takeIn {E : pmEv} {h : pmH} {z : Option Nat} {r : Nat} {p : aRow} {S : aRs} {a l : Nat} (ha : S.2.2 2 = nI a) (hl : S.2.2 5 = nI l) (hl2 : l ≤ 255) (hf : a + 12 + l ≤ p.2) (hc : S.2.2 6 = 1347179589 → S.1.2.2.2.1.2 = 0) (hN : p.2 ≤ 2000) (hR : ReA h r p S) : Call E mReading_takeIn [.ref r] h z 0 0 (RetX (some (.int (bI (tkOk p a l (S.2.2 6) S.1.2)))) (fun h' => ReA h' r p (if tkOk p a l (S.2.2 6) S.1.2 then tkS p a l (S.2.2 6) S else S) ∧ Sm h h' r 15) z) := by
  have hs : Sm h h r 15 := Sm.refl _ _ _
  refine call_of (L := [some (.ref r), none]) ok_mReading_takeIn (Nat.le_of_ble_eq_true rfl) ?_
  refine go_aload_n dReading_takeIn_0 rfl ?_
  refine go_getf dReading_takeIn_1 qf_Reading_56 hR.1 rfl ?_
  refine go_bipush (v := 8) dReading_takeIn_4 (by decide) ?_
  refine go_iadd dReading_takeIn_6 ?_
  refine go_top (y := nI (a + 8)) (by show S.2.2 2 + 8 = _; rw [ha]; exact nI_a8 a) ?_
  refine go_istore_n dReading_takeIn_7 ?_
  refine go_aload_n dReading_takeIn_8 rfl ?_
  refine go_getf dReading_takeIn_9 qf_Reading_47 hR.1 rfl ?_
  refine go_by (1229209940) (fun s1 => ?_) (fun s1 => ?_)
  · refine go_lookup (tgt := 233) (off := 221) dReading_takeIn_12 (by decide) (by decide) ?_
    refine go_aload_n dReading_takeIn_233 rfl ?_
    refine go_iload_n dReading_takeIn_234 rfl ?_
    refine go_virtX dReading_takeIn_235 ok_mReading_takeRows im_mReading_takeRows se_mReading_takeRows qm_Reading_167 hR.1 (a_Reading_takeRows ha hl hl2 hf hN hR) (fun hx2 d2 q2 => ?_) (hnp := np_mReading_takeRows)
    have hR2 := q2.1
    have s2 := hs.trans q2.2
    refine go_iret dReading_takeIn_238 rfl rfl ?_ (Nat.le_of_ble_eq_true rfl) (Nat.le_of_ble_eq_true rfl)
    have hh : tkOk p a l (S.2.2 6) S.1.2 := by rw [tkOk, if_pos s1]; exact trivial
    exact retX_e (by rw [bI_t hh]) ⟨by rw [if_pos hh, tkS, if_pos s1]; exact hR2, s2⟩
  refine go_by (1229278788) (fun s2 => ?_) (fun s2 => ?_)
  · refine go_lookup (tgt := 239) (off := 227) dReading_takeIn_12 (by decide) (by decide) ?_
    refine go_aload_n dReading_takeIn_239 rfl ?_
    refine go_getf dReading_takeIn_240 qf_Reading_59 hR.1 rfl ?_
    refine go_if_ne (tgt := 250) dReading_takeIn_243 (fun c3 => ?_) (fun c3 => ?_)
    · refine go_iconst (v := 0) dReading_takeIn_250 (by decide) ?_
      refine go_iret dReading_takeIn_251 rfl rfl ?_ (Nat.le_of_ble_eq_true rfl) (Nat.le_of_ble_eq_true rfl)
      have hh : ¬ tkOk p a l (S.2.2 6) S.1.2 := by rw [tkOk, if_neg s1, if_pos s2]; exact fun q => c3 (by rw [hl, q]; rfl)
      exact retX_e (by rw [bI_f hh]) ⟨by rw [if_neg hh]; exact hR, hs⟩
    · refine go_iconst (v := 1) dReading_takeIn_246 (by decide) ?_
      refine go_goto (tgt := 251) dReading_takeIn_247 ?_
      refine go_iret dReading_takeIn_251 rfl rfl ?_ (Nat.le_of_ble_eq_true rfl) (Nat.le_of_ble_eq_true rfl)
      have hh : tkOk p a l (S.2.2 6) S.1.2 := by rw [tkOk, if_neg s1, if_pos s2]; exact (nI_inj (b := 0) (by omega) (by omega)).mp (hl.symm.trans c3)
      exact retX_e (by rw [bI_t hh]) ⟨by rw [if_pos hh, tkS, if_neg s1, if_pos s2]; exact hR, hs⟩
  refine go_by (1229472850) (fun s3 => ?_) (fun s3 => ?_)
  · refine go_lookup (tgt := 88) (off := 76) dReading_takeIn_12 (by decide) (by decide) ?_
    refine go_aload_n dReading_takeIn_88 rfl ?_
    refine go_iload_n dReading_takeIn_89 rfl ?_
    refine go_virtX dReading_takeIn_90 ok_mReading_takeHead im_mReading_takeHead se_mReading_takeHead qm_Reading_152 hR.1 (a_Reading_takeHead ha hl hl2 hf hN hR) (fun hx4 d4 q4 => ?_) (hnp := np_mReading_takeHead)
    have hR4 := q4.1
    have s4 := hs.trans q4.2
    refine go_iret dReading_takeIn_93 rfl bI_n ?_ (Nat.le_of_ble_eq_true rfl) (Nat.le_of_ble_eq_true rfl)
    have ee : tkOk p a l (S.2.2 6) S.1.2 ↔ hdOk p a l := by rw [tkOk, if_neg s1, if_neg s2, if_pos s3]
    exact retX_e (congrArg (fun x => some (Value.int x)) (bI_c ee.symm)) ⟨by rw [ite_c ee (show tkS p a l (S.2.2 6) S = hdS p a S by rw [tkS, if_neg s1, if_neg s2, if_pos s3])]; exact hR4, s4⟩
  refine go_by (1347179589) (fun s4 => ?_) (fun s4 => ?_)
  · refine go_lookup (tgt := 221) (off := 209) dReading_takeIn_12 (by decide) (by decide) ?_
    refine go_aload_n dReading_takeIn_221 rfl ?_
    refine go_iload_n dReading_takeIn_222 rfl ?_
    refine go_virtX dReading_takeIn_223 ok_mReading_takePalette im_mReading_takePalette se_mReading_takePalette qm_Reading_161 hR.1 (a_Reading_takePalette ha hl hl2 hf (fun _ => hc s4) hN hR) (fun hx5 d5 q5 => ?_) (hnp := np_mReading_takePalette)
    have hR5 := q5.1
    have s5 := hs.trans q5.2
    refine go_iret dReading_takeIn_226 rfl bI_n ?_ (Nat.le_of_ble_eq_true rfl) (Nat.le_of_ble_eq_true rfl)
    have ee : tkOk p a l (S.2.2 6) S.1.2 ↔ plOk l S.1.2.1.2.2.1 := by rw [tkOk, if_neg s1, if_neg s2, if_neg s3, if_pos s4]
    exact retX_e (congrArg (fun x => some (Value.int x)) (bI_c ee.symm)) ⟨by rw [ite_c ee (show tkS p a l (S.2.2 6) S = plS p a l S by rw [tkS, if_neg s1, if_neg s2, if_neg s3, if_pos s4])]; exact hR5, s5⟩
  refine go_by (1732332865) (fun s5 => ?_) (fun s5 => ?_)
  · refine go_lookup (tgt := 94) (off := 82) dReading_takeIn_12 (by decide) (by decide) ?_
    refine go_aload_n dReading_takeIn_94 rfl ?_
    refine go_getf dReading_takeIn_95 qf_Reading_59 hR.1 rfl ?_
    refine go_iconst (v := 4) dReading_takeIn_98 (by decide) ?_
    refine go_icmp_ne (tgt := 122) dReading_takeIn_99 (fun c6 => ?_) (fun c6 => ?_)
    · refine go_iconst (v := 0) dReading_takeIn_122 (by decide) ?_
      refine go_iret dReading_takeIn_123 rfl rfl ?_ (Nat.le_of_ble_eq_true rfl) (Nat.le_of_ble_eq_true rfl)
      have hh : ¬ tkOk p a l (S.2.2 6) S.1.2 := by rw [tkOk, if_neg s1, if_neg s2, if_neg s3, if_neg s4, if_pos s5]; exact fun q => c6 (by rw [hl, q.1]; rfl)
      exact retX_e (by rw [bI_f hh]) ⟨by rw [if_neg hh]; exact hR, hs⟩
    · refine go_aload_n dReading_takeIn_102 rfl ?_
      refine go_iconst (v := 0) dReading_takeIn_103 (by decide) ?_
      refine go_aload_n dReading_takeIn_104 rfl ?_
      refine go_getf dReading_takeIn_105 qf_Reading_14 hR.1 rfl ?_
      refine go_iload_n dReading_takeIn_108 rfl ?_
      refine go_virtP dReading_takeIn_109 ok_mBytes_number im_mBytes_number se_mBytes_number qm_Reading_118 hR.2.1.1 (a_Bytes_numN (j := a + 8) hR.2.1 hN (by omega)) ?_ (hnp := np_mBytes_number)
      refine go_virtX dReading_takeIn_112 ok_mReading_takeTag im_mReading_takeTag se_mReading_takeTag qm_Reading_155 hR.1 (a_Reading_takeTag (k := 0) (by omega) hR) (fun hx7 d7 q7 => ?_) (hnp := np_mReading_takeTag)
      have hR7 := q7.1
      have s7 := hs.trans q7.2
      refine go_ifeq_b (tgt := 122) dReading_takeIn_115 (fun c8 => ?_) (fun c8 => ?_)
      · refine go_iconst (v := 0) dReading_takeIn_122 (by decide) ?_
        refine go_iret dReading_takeIn_123 rfl rfl ?_ (Nat.le_of_ble_eq_true rfl) (Nat.le_of_ble_eq_true rfl)
        have hh : ¬ tkOk p a l (S.2.2 6) S.1.2 := by rw [tkOk, if_neg s1, if_neg s2, if_neg s3, if_neg s4, if_pos s5]; exact fun q => c8 q.2
        exact retX_e (by rw [bI_f hh]) ⟨by rw [if_neg hh]; exact (by have x := hR7; rw [if_neg c8] at x; exact x), s7⟩
      · refine go_iconst (v := 1) dReading_takeIn_118 (by decide) ?_
        refine go_goto (tgt := 123) dReading_takeIn_119 ?_
        refine go_iret dReading_takeIn_123 rfl rfl ?_ (Nat.le_of_ble_eq_true rfl) (Nat.le_of_ble_eq_true rfl)
        have hh : tkOk p a l (S.2.2 6) S.1.2 := by rw [tkOk, if_neg s1, if_neg s2, if_neg s3, if_neg s4, if_pos s5]; exact ⟨(nI_inj (b := 4) (by omega) (by omega)).mp (hl.symm.trans c6), c8⟩
        exact retX_e (by rw [bI_t hh]) ⟨by rw [if_pos hh, tkS, if_neg s1, if_neg s2, if_neg s3, if_neg s4, if_pos s5]; exact (by have x := hR7; rw [if_pos c8] at x; exact x), s7⟩
  refine go_by (1883789683) (fun s6 => ?_) (fun s6 => ?_)
  · refine go_lookup (tgt := 154) (off := 142) dReading_takeIn_12 (by decide) (by decide) ?_
    refine go_aload_n dReading_takeIn_154 rfl ?_
    refine go_getf dReading_takeIn_155 qf_Reading_59 hR.1 rfl ?_
    refine go_bipush (v := 9) dReading_takeIn_158 (by decide) ?_
    refine go_icmp_ne (tgt := 219) dReading_takeIn_160 (fun c7 => ?_) (fun c7 => ?_)
    · refine go_iconst (v := 0) dReading_takeIn_219 (by decide) ?_
      refine go_iret dReading_takeIn_220 rfl rfl ?_ (Nat.le_of_ble_eq_true rfl) (Nat.le_of_ble_eq_true rfl)
      have hh : ¬ tkOk p a l (S.2.2 6) S.1.2 := by rw [tkOk, if_neg s1, if_neg s2, if_neg s3, if_neg s4, if_neg s5, if_pos s6]; exact fun q => c7 (by rw [hl, q.1]; rfl)
      exact retX_e (by rw [bI_f hh]) ⟨by rw [if_neg hh]; exact hR, hs⟩
    · have e9 : l = 9 := (nI_inj (b := 9) (by omega) (by omega)).mp (hl.symm.trans c7)
      refine go_aload_n dReading_takeIn_163 rfl ?_
      refine go_getf dReading_takeIn_164 qf_Reading_14 hR.1 rfl ?_
      refine go_iload_n dReading_takeIn_167 rfl ?_
      refine go_virtP dReading_takeIn_168 ok_mBytes_number im_mBytes_number se_mBytes_number qm_Reading_118 hR.2.1.1 (a_Bytes_numN (j := a + 8) hR.2.1 hN (by omega)) ?_ (hnp := np_mBytes_number)
      refine go_aload_n dReading_takeIn_171 rfl ?_
      refine go_getf dReading_takeIn_172 qf_Reading_14 hR.1 rfl ?_
      refine go_iload_n dReading_takeIn_175 rfl ?_
      refine go_iconst (v := 4) dReading_takeIn_176 (by decide) ?_
      refine go_iadd dReading_takeIn_177 ?_
      rw [nI_a4 (a + 8)]
      refine go_virtP dReading_takeIn_178 ok_mBytes_number im_mBytes_number se_mBytes_number qm_Reading_118 hR.2.1.1 (a_Bytes_numN (j := a + 8 + 4) hR.2.1 hN (by omega)) ?_ (hnp := np_mBytes_number)
      refine go_icmp_ne (tgt := 219) dReading_takeIn_181 (fun c8 => ?_) (fun c8 => ?_)
      · refine go_iconst (v := 0) dReading_takeIn_219 (by decide) ?_
        refine go_iret dReading_takeIn_220 rfl rfl ?_ (Nat.le_of_ble_eq_true rfl) (Nat.le_of_ble_eq_true rfl)
        have hh : ¬ tkOk p a l (S.2.2 6) S.1.2 := by rw [tkOk, if_neg s1, if_neg s2, if_neg s3, if_neg s4, if_neg s5, if_pos s6]; exact fun q => c8 q.2.1
        exact retX_e (by rw [bI_f hh]) ⟨by rw [if_neg hh]; exact hR, hs⟩
      · refine go_aload_n dReading_takeIn_184 rfl ?_
        refine go_getf dReading_takeIn_185 qf_Reading_14 hR.1 rfl ?_
        refine go_iload_n dReading_takeIn_188 rfl ?_
        refine go_bipush (v := 8) dReading_takeIn_189 (by decide) ?_
        refine go_iadd dReading_takeIn_191 ?_
        rw [nI_a8 (a + 8)]
        refine go_virtP dReading_takeIn_192 ok_mBytes_value im_mBytes_value se_mBytes_value qm_Reading_158 hR.2.1.1 (a_Bytes_valN (j := a + 8 + 8) hR.2.1 hN (by omega)) ?_ (hnp := np_mBytes_value)
        refine go_iconst (v := 1) dReading_takeIn_195 (by decide) ?_
        refine go_icmp_ne (tgt := 219) dReading_takeIn_196 (fun c9 => ?_) (fun c9 => ?_)
        · refine go_iconst (v := 0) dReading_takeIn_219 (by decide) ?_
          refine go_iret dReading_takeIn_220 rfl rfl ?_ (Nat.le_of_ble_eq_true rfl) (Nat.le_of_ble_eq_true rfl)
          have hh : ¬ tkOk p a l (S.2.2 6) S.1.2 := by rw [tkOk, if_neg s1, if_neg s2, if_neg s3, if_neg s4, if_neg s5, if_pos s6]; exact fun q => c9 q.2.2.1
          exact retX_e (by rw [bI_f hh]) ⟨by rw [if_neg hh]; exact hR, hs⟩
        · refine go_aload_n dReading_takeIn_199 rfl ?_
          refine go_iconst (v := 2) dReading_takeIn_200 (by decide) ?_
          refine go_aload_n dReading_takeIn_201 rfl ?_
          refine go_getf dReading_takeIn_202 qf_Reading_14 hR.1 rfl ?_
          refine go_iload_n dReading_takeIn_205 rfl ?_
          refine go_virtP dReading_takeIn_206 ok_mBytes_number im_mBytes_number se_mBytes_number qm_Reading_118 hR.2.1.1 (a_Bytes_numN (j := a + 8) hR.2.1 hN (by omega)) ?_ (hnp := np_mBytes_number)
          refine go_virtX dReading_takeIn_209 ok_mReading_takeTag im_mReading_takeTag se_mReading_takeTag qm_Reading_155 hR.1 (a_Reading_takeTag (k := 2) (by omega) hR) (fun hx10 d10 q10 => ?_) (hnp := np_mReading_takeTag)
          have hR10 := q10.1
          have s10 := hs.trans q10.2
          refine go_ifeq_b (tgt := 219) dReading_takeIn_212 (fun c11 => ?_) (fun c11 => ?_)
          · refine go_iconst (v := 0) dReading_takeIn_219 (by decide) ?_
            refine go_iret dReading_takeIn_220 rfl rfl ?_ (Nat.le_of_ble_eq_true rfl) (Nat.le_of_ble_eq_true rfl)
            have hh : ¬ tkOk p a l (S.2.2 6) S.1.2 := by rw [tkOk, if_neg s1, if_neg s2, if_neg s3, if_neg s4, if_neg s5, if_pos s6]; exact fun q => c11 q.2.2.2
            exact retX_e (by rw [bI_f hh]) ⟨by rw [if_neg hh]; exact (by have x := hR10; rw [if_neg c11] at x; exact x), s10⟩
          · refine go_iconst (v := 1) dReading_takeIn_215 (by decide) ?_
            refine go_goto (tgt := 220) dReading_takeIn_216 ?_
            refine go_iret dReading_takeIn_220 rfl rfl ?_ (Nat.le_of_ble_eq_true rfl) (Nat.le_of_ble_eq_true rfl)
            have hh : tkOk p a l (S.2.2 6) S.1.2 := by rw [tkOk, if_neg s1, if_neg s2, if_neg s3, if_neg s4, if_neg s5, if_pos s6]; exact ⟨(nI_inj (b := 9) (by omega) (by omega)).mp (hl.symm.trans c7), c8, c9, c11⟩
            exact retX_e (by rw [bI_t hh]) ⟨by rw [if_pos hh, tkS, if_neg s1, if_neg s2, if_neg s3, if_neg s4, if_neg s5, if_pos s6]; exact (by have x := hR10; rw [if_pos c11] at x; exact x), s10⟩
  refine go_by (1934772034) (fun s7 => ?_) (fun s7 => ?_)
  · refine go_lookup (tgt := 124) (off := 112) dReading_takeIn_12 (by decide) (by decide) ?_
    refine go_aload_n dReading_takeIn_124 rfl ?_
    refine go_getf dReading_takeIn_125 qf_Reading_59 hR.1 rfl ?_
    refine go_iconst (v := 1) dReading_takeIn_128 (by decide) ?_
    refine go_icmp_ne (tgt := 152) dReading_takeIn_129 (fun c8 => ?_) (fun c8 => ?_)
    · refine go_iconst (v := 0) dReading_takeIn_152 (by decide) ?_
      refine go_iret dReading_takeIn_153 rfl rfl ?_ (Nat.le_of_ble_eq_true rfl) (Nat.le_of_ble_eq_true rfl)
      have hh : ¬ tkOk p a l (S.2.2 6) S.1.2 := by rw [tkOk, if_neg s1, if_neg s2, if_neg s3, if_neg s4, if_neg s5, if_neg s6, if_pos s7]; exact fun q => c8 (by rw [hl, q.1]; rfl)
      exact retX_e (by rw [bI_f hh]) ⟨by rw [if_neg hh]; exact hR, hs⟩
    · refine go_aload_n dReading_takeIn_132 rfl ?_
      refine go_iconst (v := 1) dReading_takeIn_133 (by decide) ?_
      refine go_aload_n dReading_takeIn_134 rfl ?_
      refine go_getf dReading_takeIn_135 qf_Reading_14 hR.1 rfl ?_
      refine go_iload_n dReading_takeIn_138 rfl ?_
      refine go_virtP dReading_takeIn_139 ok_mBytes_value im_mBytes_value se_mBytes_value qm_Reading_158 hR.2.1.1 (a_Bytes_valN (j := a + 8) hR.2.1 hN (by omega)) ?_ (hnp := np_mBytes_value)
      refine go_virtX dReading_takeIn_142 ok_mReading_takeTag im_mReading_takeTag se_mReading_takeTag qm_Reading_155 hR.1 (a_Reading_takeTag (k := 1) (by omega) hR) (fun hx9 d9 q9 => ?_) (hnp := np_mReading_takeTag)
      have hR9 := q9.1
      have s9 := hs.trans q9.2
      refine go_ifeq_b (tgt := 152) dReading_takeIn_145 (fun c10 => ?_) (fun c10 => ?_)
      · refine go_iconst (v := 0) dReading_takeIn_152 (by decide) ?_
        refine go_iret dReading_takeIn_153 rfl rfl ?_ (Nat.le_of_ble_eq_true rfl) (Nat.le_of_ble_eq_true rfl)
        have hh : ¬ tkOk p a l (S.2.2 6) S.1.2 := by rw [tkOk, if_neg s1, if_neg s2, if_neg s3, if_neg s4, if_neg s5, if_neg s6, if_pos s7]; exact fun q => c10 q.2
        exact retX_e (by rw [bI_f hh]) ⟨by rw [if_neg hh]; exact (by have x := hR9; rw [if_neg c10] at x; exact x), s9⟩
      · refine go_iconst (v := 1) dReading_takeIn_148 (by decide) ?_
        refine go_goto (tgt := 153) dReading_takeIn_149 ?_
        refine go_iret dReading_takeIn_153 rfl rfl ?_ (Nat.le_of_ble_eq_true rfl) (Nat.le_of_ble_eq_true rfl)
        have hh : tkOk p a l (S.2.2 6) S.1.2 := by rw [tkOk, if_neg s1, if_neg s2, if_neg s3, if_neg s4, if_neg s5, if_neg s6, if_pos s7]; exact ⟨(nI_inj (b := 1) (by omega) (by omega)).mp (hl.symm.trans c8), c10⟩
        exact retX_e (by rw [bI_t hh]) ⟨by rw [if_pos hh, tkS, if_neg s1, if_neg s2, if_neg s3, if_neg s4, if_neg s5, if_neg s6, if_pos s7]; exact (by have x := hR9; rw [if_pos c10] at x; exact x), s9⟩
  refine go_by (1951551059) (fun s8 => ?_) (fun s8 => ?_)
  · refine go_lookup (tgt := 227) (off := 215) dReading_takeIn_12 (by decide) (by decide) ?_
    refine go_aload_n dReading_takeIn_227 rfl ?_
    refine go_iload_n dReading_takeIn_228 rfl ?_
    refine go_virtX dReading_takeIn_229 ok_mReading_takeAlphas im_mReading_takeAlphas se_mReading_takeAlphas qm_Reading_164 hR.1 (a_Reading_takeAlphas ha hl hl2 hf hN hR) (fun hx9 d9 q9 => ?_) (hnp := np_mReading_takeAlphas)
    have hR9 := q9.1
    have s9 := hs.trans q9.2
    refine go_iret dReading_takeIn_232 rfl bI_n ?_ (Nat.le_of_ble_eq_true rfl) (Nat.le_of_ble_eq_true rfl)
    have ee : tkOk p a l (S.2.2 6) S.1.2 ↔ alOk l S.1.2 := by rw [tkOk, if_neg s1, if_neg s2, if_neg s3, if_neg s4, if_neg s5, if_neg s6, if_neg s7, if_pos s8]
    exact retX_e (congrArg (fun x => some (Value.int x)) (bI_c ee.symm)) ⟨by rw [ite_c ee (show tkS p a l (S.2.2 6) S = alS p a l S by rw [tkS, if_neg s1, if_neg s2, if_neg s3, if_neg s4, if_neg s5, if_neg s6, if_neg s7, if_pos s8])]; exact hR9, s9⟩
  refine go_lookup (tgt := 252) (off := 240) dReading_takeIn_12 (by decide) (by rw [lv_osw s1 (by decide)]; rw [lv_osw s2 (by decide)]; rw [lv_osw s3 (by decide)]; rw [lv_osw s4 (by decide)]; rw [lv_osw s5 (by decide)]; rw [lv_osw s6 (by decide)]; rw [lv_osw s7 (by decide)]; rw [lv_osw s8 (by decide)]; rfl) ?_
  refine go_aload_n dReading_takeIn_252 rfl ?_
  refine go_iload_n dReading_takeIn_253 rfl ?_
  refine go_virtX dReading_takeIn_254 ok_mReading_takeExtra im_mReading_takeExtra se_mReading_takeExtra qm_Reading_170 hR.1 (a_Reading_takeExtra ha hl hl2 hf hN hR) (fun hx9 d9 q9 => ?_) (hnp := np_mReading_takeExtra)
  have hR9 := q9.1
  have s9 := hs.trans q9.2
  refine go_iret dReading_takeIn_257 rfl bI_n ?_ (Nat.le_of_ble_eq_true rfl) (Nat.le_of_ble_eq_true rfl)
  have ee : tkOk p a l (S.2.2 6) S.1.2 ↔ exK l S.1.2 := by rw [tkOk, if_neg s1, if_neg s2, if_neg s3, if_neg s4, if_neg s5, if_neg s6, if_neg s7, if_neg s8]
  exact retX_e (congrArg (fun x => some (Value.int x)) (bI_c ee.symm)) ⟨by rw [ite_c ee (show tkS p a l (S.2.2 6) S = exS p a l S by rw [tkS, if_neg s1, if_neg s2, if_neg s3, if_neg s4, if_neg s5, if_neg s6, if_neg s7, if_neg s8])]; exact hR9, s9⟩
set_option maxHeartbeats 4000000 in
theorem a_Reading_end {E : pmEv} {h : pmH} {z : Option Nat} {r : Nat} {p : aRow} {S : aRs} (h7 : S.2.2 7 = nI S.2.1.2) (h8 : S.2.1.2 ≤ 4000) (hR : ReA h r p S) : Call E mReading_end [.ref r] h z 0 0 (RetX (some (.int (if enOk S then 0 else 8))) (fun h' => (∃ S', ReA h' r p S' ∧ S'.2.2 = (if enOk S then upd S.2.2 0 1 else S.2.2) ∧ (enOk S → S' = enS S)) ∧ Sm h h' r 15) z) := by
  have hs : Sm h h r 15 := Sm.refl _ _ _
  have hle := rlH_le hR.2.2.1.2.2.2.2.2
  refine call_of (L := [some (.ref r)]) ok_mReading_end (Nat.le_of_ble_eq_true rfl) ?_
  refine go_aload_n dReading_end_0 rfl ?_
  refine go_getf dReading_end_1 qf_Reading_72 hR.1 rfl ?_
  refine go_aload_n dReading_end_4 rfl ?_
  refine go_getf dReading_end_5 qf_Reading_23 hR.1 rfl ?_
  refine go_statP dReading_end_8 ok_mRows_lengthOf st_mRows_lengthOf qm_Reading_222 (a_Rows_lengthOf hR.2.2.1) ?_ (hnp := np_mRows_lengthOf)
  refine go_icmp_ne (tgt := 28) dReading_end_11 (fun c1 => ?_) (fun c1 => ?_)
  · refine go_bipush (v := 8) dReading_end_28 (by decide) ?_
    refine go_iret dReading_end_30 rfl rfl ?_ (Nat.le_of_ble_eq_true rfl) (Nat.le_of_ble_eq_true rfl)
    have hh : ¬ enOk S := fun q => c1 (by rw [h7, q.1])
    exact retX_e (by rw [if_neg hh]) ⟨⟨S, hR, by rw [if_neg hh], fun q => absurd q hh⟩, hs⟩
  · have e7 := (nI_inj (by omega) (by omega)).mp (h7.symm.trans c1)
    refine go_aload_n dReading_end_14 rfl ?_
    refine go_getf dReading_end_15 qf_Reading_29 hR.1 rfl ?_
    refine go_aload_n dReading_end_18 rfl ?_
    refine go_getf dReading_end_19 qf_Reading_23 hR.1 rfl ?_
    refine go_statX dReading_end_22 ok_mRows_unpack st_mRows_unpack qm_Reading_226 (a_Rows_unpack (by omega) hR.2.2.2 (show S.2.1.2 ≤ 588 by omega) hR.2.2.1) (fun hx2 d2 q2 => ?_) (hnp := np_mRows_unpack)
    refine go_ifne_b (tgt := 31) dReading_end_25 (fun c3 => ?_) (fun c3 => ?_)
    · have hh : enOk S := ⟨e7, c3⟩
      obtain ⟨⟨s2, a1, a2⟩, a3⟩ := q2
      have hR2 := hR.pic (a1.cg (s' := upS S.1.2 S.2.1) (fun x hx y hy u hu => (a2 c3 y hy x hx u hu).trans (upS_at hR.2.2.1.2.2.2.2.2 hx hu).symm)) a3
      have s2 := hs.trans (a3.sub (by omega) (by omega))
      refine go_aload_n dReading_end_31 rfl ?_
      refine go_iconst (v := 1) dReading_end_32 (by decide) ?_
      refine go_putf dReading_end_33 qf_Reading_39 pw_4_3 hR2.1 rfl rfl ?_
      refine go_nm (fun hnk1 enk1 => ?_)
      have gsk1 : Sm hx2 hnk1 r 1 := by rw [enk1]; exact (Sm.put' (Sm.refl _ _ _) _ (by omega) (by omega))
      have hRk1 := ReA.put (g := upd S.2.2 0 1) hR2 ((congrFun enk1 r).trans (pmU_s _ _ _)) gsk1
      have sk1 := s2.trans (gsk1.sub (a := r) (n := 15) (by omega) (by omega))
      refine go_iconst (v := 0) dReading_end_36 (by decide) ?_
      refine go_iret dReading_end_37 rfl rfl ?_ (Nat.le_of_ble_eq_true rfl) (Nat.le_of_ble_eq_true rfl)
      exact retX_e (by rw [if_pos hh]) ⟨⟨enS S, hRk1, by rw [if_pos hh]; rfl, fun _ => rfl⟩, sk1⟩
    · refine go_bipush (v := 8) dReading_end_28 (by decide) ?_
      refine go_iret dReading_end_30 rfl rfl ?_ (Nat.le_of_ble_eq_true rfl) (Nat.le_of_ble_eq_true rfl)
      have hh : ¬ enOk S := fun q => c3 q.2
      obtain ⟨⟨s2, a1, a2⟩, a3⟩ := q2
      exact retX_e (by rw [if_neg hh]) ⟨⟨_, hR.pic a1 a3, by rw [if_neg hh], fun q => absurd q hh⟩, hs.trans (a3.sub (by omega) (by omega))⟩
set_option maxHeartbeats 4000000 in
theorem a_Reading_readChunk {E : pmEv} {h : pmH} {z : Option Nat} {r : Nat} {p : aRow} {S : aRs} {a : Nat} (hS : SA E h r) (ha : S.2.2 2 = nI a) (h8 : a ≤ 4000) (hI : RInv S a) (hN : p.2 ≤ 2000) (hR : ReA h r p S) : Call E mReading_readChunk [.ref r] h z 0 0 (RetX (some (.int (rcV p a S))) (fun h' => (∃ S', ReA h' r p S' ∧ (∀ j, j < 3 → S'.2.2 j = S.2.2 j) ∧ (rcV p a S = 0 → S' = rcS p a S)) ∧ Sm h h' r 15) z) := by
  have hs : Sm h h r 15 := Sm.refl _ _ _
  refine call_of (L := [some (.ref r), none]) ok_mReading_readChunk (Nat.le_of_ble_eq_true rfl) ?_
  refine go_aload_n dReading_readChunk_0 rfl ?_
  refine go_virtX dReading_readChunk_1 ok_mReading_frameFault im_mReading_frameFault se_mReading_frameFault qm_Reading_93 hR.1 (a_Reading_frameFault ha h8 hN hR) (fun hx1 d1 q1 => ?_) (hnp := np_mReading_frameFault)
  obtain ⟨⟨g1, hR1, gs1, ge1⟩, s1⟩ := q1
  refine go_istore_n dReading_readChunk_4 ?_
  refine go_iload_n dReading_readChunk_5 rfl ?_
  refine go_if_eq (tgt := 11) dReading_readChunk_6 (fun c2 => ?_) (fun c2 => ?_)
  · have eg := ge1 c2
    subst eg
    obtain ⟨l, hl2, el, hf, hlet⟩ := frV0 c2
    have ln : lnN p a = l := by rw [lnN, el, nI_clamp (by omega)]
    refine go_aload_n dReading_readChunk_11 rfl ?_
    refine go_getf dReading_readChunk_12 qf_Reading_14 hR1.1 rfl ?_
    refine go_aload_n dReading_readChunk_15 rfl ?_
    refine go_getf dReading_readChunk_16 qf_Reading_56 hR1.1 rfl ?_
    refine go_top (y := nI a) (by show S.2.2 2 = _; exact ha) ?_
    refine go_aload_n dReading_readChunk_19 rfl ?_
    refine go_getf dReading_readChunk_20 qf_Reading_59 hR1.1 rfl ?_
    refine go_top (y := nI l) (by show fr p.1 a = _; exact el) ?_
    refine go_virtP dReading_readChunk_23 ok_mBytes_sumIsRight im_mBytes_sumIsRight se_mBytes_sumIsRight qm_Reading_96 hR1.2.1.1 (a_Bytes_sumIsRight ((hS.sm s1 (by omega)).le (by omega)) hR1.2.1 hN (a := a) (l := l) (by omega)) ?_ (hnp := np_mBytes_sumIsRight)
    refine go_ifne_b (tgt := 34) dReading_readChunk_26 (fun c3 => ?_) (fun c3 => ?_)
    · refine go_aload_n dReading_readChunk_34 rfl ?_
      refine go_virtP dReading_readChunk_35 ok_mReading_orderIsWrong im_mReading_orderIsWrong se_mReading_orderIsWrong qm_Reading_103 hR1.1 (a_Reading_orderIsWrong hR1) ?_ (hnp := np_mReading_orderIsWrong)
      refine go_ifeq_b (tgt := 43) dReading_readChunk_38 (fun c4 => ?_) (fun c4 => ?_)
      · refine go_aload_n dReading_readChunk_43 rfl ?_
        refine go_virtP dReading_readChunk_44 ok_mReading_isUnknown im_mReading_isUnknown se_mReading_isUnknown qm_Reading_106 hR1.1 (a_Reading_isUnknown hR1) ?_ (hnp := np_mReading_isUnknown)
        refine go_ifeq_b (tgt := 53) dReading_readChunk_47 (fun c5 => ?_) (fun c5 => ?_)
        · refine go_aload_n dReading_readChunk_53 rfl ?_
          refine go_virtX dReading_readChunk_54 ok_mReading_takeIn im_mReading_takeIn se_mReading_takeIn qm_Reading_109 hR1.1 (a_Reading_takeIn (S := (S.1, S.2.1, frG p a S.2.2)) (a := a) (l := l) ha el hl2 hf (fun e => ord_pal hI c4 e) hN hR1) (fun hx6 d6 q6 => ?_) (hnp := np_mReading_takeIn)
          have hR6 := q6.1
          have s6 := s1.trans q6.2
          refine go_ifne_b (tgt := 63) dReading_readChunk_57 (fun c7 => ?_) (fun c7 => ?_)
          · have hR6b : ReA hx6 r p (tkS p a l (fr p.1 (a + 4)) (S.1, S.2.1, frG p a S.2.2)) := by have x := hR6; rw [if_pos c7] at x; exact x
            refine go_aload_n dReading_readChunk_63 rfl ?_
            refine go_dup dReading_readChunk_64 rfl ?_
            refine go_getf dReading_readChunk_65 qf_Reading_66 hR6b.1 rfl ?_
            refine go_iconst (v := 1) dReading_readChunk_68 (by decide) ?_
            refine go_iadd dReading_readChunk_69 ?_
            refine go_putf dReading_readChunk_70 qf_Reading_66 pw_4_6 hR6b.1 rfl rfl ?_
            refine go_nm (fun hnk1 enk1 => ?_)
            have gsk1 : Sm hx6 hnk1 r 1 := by rw [enk1]; exact (Sm.put' (Sm.refl _ _ _) _ (by omega) (by omega))
            have hRk1 := ReA.put (g := upd (tkS p a l (fr p.1 (a + 4)) (S.1, S.2.1, frG p a S.2.2)).2.2 3 ((tkS p a l (fr p.1 (a + 4)) (S.1, S.2.1, frG p a S.2.2)).2.2 3 + 1)) hR6b ((congrFun enk1 r).trans (pmU_s _ _ _)) gsk1
            have sk1 := s6.trans (gsk1.sub (a := r) (n := 15) (by omega) (by omega))
            refine go_aload_n dReading_readChunk_73 rfl ?_
            refine go_virtX dReading_readChunk_74 ok_mReading_noteRowsEnd im_mReading_noteRowsEnd se_mReading_noteRowsEnd qm_Reading_112 hRk1.1 (a_Reading_noteRowsEnd hRk1) (fun hx8 d8 q8 => ?_) (hnp := np_mReading_noteRowsEnd)
            have hR8 := q8.1
            have s8 := sk1.trans q8.2
            refine go_iconst (v := 0) dReading_readChunk_77 (by decide) ?_
            refine go_iret dReading_readChunk_78 rfl rfl ?_ (Nat.le_of_ble_eq_true rfl) (Nat.le_of_ble_eq_true rfl)
            have ev : rcV p a S = 0 := by rw [rcV, if_neg (fun q => q c2), if_neg (fun q => q (show smW p a by rw [smW, ln]; exact c3)), if_neg (show ¬ ordW (frG p a S.2.2) S.1.2 from c4), if_neg (show ¬ unkW (fr p.1 (a + 4)) from c5), ln, if_pos (show tkOk p a l (fr p.1 (a + 4)) S.1.2 from c7)]
            exact retX_e (by rw [ev]) ⟨⟨_, hR8, fun j hj => (nx_g (by omega) (by omega)).trans ((tkS_g (by omega)).trans (gs1 j (by omega) (by omega))), fun q => by rw [rcS, if_neg (fun q => q (show smW p a by rw [smW, ln]; exact c3)), ln]; rfl⟩, s8⟩
          · refine go_bipush (v := 7) dReading_readChunk_60 (by decide) ?_
            refine go_iret dReading_readChunk_62 rfl rfl ?_ (Nat.le_of_ble_eq_true rfl) (Nat.le_of_ble_eq_true rfl)
            have ev : rcV p a S = 7 := by rw [rcV, if_neg (fun q => q c2), if_neg (fun q => q (show smW p a by rw [smW, ln]; exact c3)), if_neg (show ¬ ordW (frG p a S.2.2) S.1.2 from c4), if_neg (show ¬ unkW (fr p.1 (a + 4)) from c5), ln, if_neg (show ¬ tkOk p a l (fr p.1 (a + 4)) S.1.2 from c7)]
            exact retX_e (by rw [ev]) ⟨⟨_, by have x := hR6; rw [if_neg c7] at x; exact x, fun j hj => gs1 j (by omega) (by omega), fun q => absurd (ev.symm.trans q) (by decide)⟩, s6⟩
        · refine go_bipush (v := 6) dReading_readChunk_50 (by decide) ?_
          refine go_iret dReading_readChunk_52 rfl rfl ?_ (Nat.le_of_ble_eq_true rfl) (Nat.le_of_ble_eq_true rfl)
          have ev : rcV p a S = 6 := by rw [rcV, if_neg (fun q => q c2), if_neg (fun q => q (show smW p a by rw [smW, ln]; exact c3)), if_neg (show ¬ ordW (frG p a S.2.2) S.1.2 from c4), if_pos (show unkW (fr p.1 (a + 4)) from c5)]
          exact retX_e (by rw [ev]) ⟨⟨_, hR1, fun j hj => gs1 j (by omega) (by omega), fun q => absurd (ev.symm.trans q) (by decide)⟩, s1⟩
      · refine go_iconst (v := 5) dReading_readChunk_41 (by decide) ?_
        refine go_iret dReading_readChunk_42 rfl rfl ?_ (Nat.le_of_ble_eq_true rfl) (Nat.le_of_ble_eq_true rfl)
        have ev : rcV p a S = 5 := by rw [rcV, if_neg (fun q => q c2), if_neg (fun q => q (show smW p a by rw [smW, ln]; exact c3)), if_pos (show ordW (frG p a S.2.2) S.1.2 from c4)]
        exact retX_e (by rw [ev]) ⟨⟨_, hR1, fun j hj => gs1 j (by omega) (by omega), fun q => absurd (ev.symm.trans q) (by decide)⟩, s1⟩
    · refine go_aload_n dReading_readChunk_29 rfl ?_
      refine go_virtX dReading_readChunk_30 ok_mReading_leaveOut im_mReading_leaveOut se_mReading_leaveOut qm_Reading_100 hR1.1 (a_Reading_leaveOut hR1) (fun hx4 d4 q4 => ?_) (hnp := np_mReading_leaveOut)
      have hR4 := q4.1
      have s4 := s1.trans q4.2
      refine go_iret dReading_readChunk_33 rfl rfl ?_ (Nat.le_of_ble_eq_true rfl) (Nat.le_of_ble_eq_true rfl)
      have es : (S.1, S.2.1, frG p a S.2.2).2.2 6 = fr p.1 (a + 4) := rfl
      have ev : rcV p a S = if grW (fr p.1 (a + 4)) then 4 else 0 := by rw [rcV, if_neg (fun q => q c2), if_pos (show ¬ smW p a by rw [smW, ln]; exact c3)]
      exact retX_e (by rw [ev]; rfl) ⟨⟨_, hR4, fun j hj => (loS_g (j := j) (by omega) (by omega)).trans (gs1 j (by omega) (by omega)), fun q => by rw [rcS, if_pos (show ¬ smW p a by rw [smW, ln]; exact c3)]⟩, s4⟩
  · refine go_iload_n dReading_readChunk_9 rfl ?_
    refine go_iret dReading_readChunk_10 rfl rfl ?_ (Nat.le_of_ble_eq_true rfl) (Nat.le_of_ble_eq_true rfl)
    have ev : rcV p a S = frV p a := by rw [rcV, if_pos c2]
    exact retX_e (by rw [ev]) ⟨⟨_, hR1, fun j hj => gs1 j (by omega) (by omega), fun q => absurd (ev.symm.trans q) c2⟩, s1⟩
set_option maxHeartbeats 4000000 in
theorem l_Reading_run_stop {E : pmEv} {h0 h : pmH} {z : Option Nat} {d : Bool} {r : Nat} {p : aRow} {S : aRs} {F : Int32 × Nat × aRs} {i : Nat} (hi : i ≤ 2000) (hR : ReA h r p S) (hs : Sm h0 h r 15) (hq : ¬ S.2.2 1 = 0 ∨ ¬ S.2.2 0 = 0) (hF : rdE F S) : Go E (mReading_run, h0, 0, 0) 6 [some (.ref r), some (.int (nI i))] [] (h, z, d) 0 0 (RetX none (fun h' => (∃ S', ReA h' r p S' ∧ rdE F S') ∧ Sm h0 h' r 15) z) := by
  refine go_iload_n dReading_run_6 rfl ?_
  refine go_sipush (v := 2000) dReading_run_7 (by decide) ?_
  refine go_icmp_ge (tgt := 88) dReading_run_10 (fun c1 => ?_) (fun c1 => ?_)
  · refine go_vret dReading_run_88 rfl ?_ (Nat.le_of_ble_eq_true rfl) (Nat.le_of_ble_eq_true rfl)
    exact retX ⟨⟨S, hR, hF⟩, hs⟩
  · refine go_aload_n dReading_run_13 rfl ?_
    refine go_getf dReading_run_14 qf_Reading_35 hR.1 rfl ?_
    refine go_if_ne (tgt := 88) dReading_run_17 (fun c2 => ?_) (fun c2 => ?_)
    · refine go_vret dReading_run_88 rfl ?_ (Nat.le_of_ble_eq_true rfl) (Nat.le_of_ble_eq_true rfl)
      exact retX ⟨⟨S, hR, hF⟩, hs⟩
    · refine go_aload_n dReading_run_20 rfl ?_
      refine go_getf dReading_run_21 qf_Reading_39 hR.1 rfl ?_
      refine go_if_ne (tgt := 88) dReading_run_24 (fun c3 => ?_) (fun c3 => ?_)
      · refine go_vret dReading_run_88 rfl ?_ (Nat.le_of_ble_eq_true rfl) (Nat.le_of_ble_eq_true rfl)
        exact retX ⟨⟨S, hR, hF⟩, hs⟩
      · exact absurd hq (by rw [c2, c3]; simp)
set_option maxHeartbeats 4000000 in
theorem l_Reading_run_59 {E : pmEv} {h0 h : pmH} {z : Option Nat} {d : Bool} {r : Nat} {p : aRow} {S : aRs} {i : Nat} {Q : pmA → pmS → Prop} (hi : i ≤ 2000) (hR : ReA h r p S) (hs : Sm h0 h r 15) (hk : ∀ hx dx, ReA hx r p (if S.2.2 1 = 0 then avS S else S) → Sm h0 hx r 15 → Go E (mReading_run, h0, 0, 0) 6 [some (.ref r), some (.int (nI (i + 1)))] [] (hx, z, dx) 0 0 Q) : Go E (mReading_run, h0, 0, 0) 59 [some (.ref r), some (.int (nI i))] [] (h, z, d) 0 0 (Q) := by
  refine go_aload_n dReading_run_59 rfl ?_
  refine go_getf dReading_run_60 qf_Reading_35 hR.1 rfl ?_
  refine go_if_ne (tgt := 82) dReading_run_63 (fun c1 => ?_) (fun c1 => ?_)
  · skip
    refine go_iinc dReading_run_82 rfl (congrArg (_ + ·) lit1) ?_
    refine go_goto (tgt := 6) dReading_run_85 ?_
    exact go_at (hk _ _ (by rw [if_neg c1]; exact hR) hs) rfl (by rw [nI_succ i]; rfl) rfl rfl
  · refine go_aload_n dReading_run_66 rfl ?_
    refine go_dup dReading_run_67 rfl ?_
    refine go_getf dReading_run_68 qf_Reading_56 hR.1 rfl ?_
    refine go_bipush (v := 12) dReading_run_71 (by decide) ?_
    refine go_aload_n dReading_run_73 rfl ?_
    refine go_getf dReading_run_74 qf_Reading_59 hR.1 rfl ?_
    refine go_iadd dReading_run_77 ?_
    refine go_iadd dReading_run_78 ?_
    refine go_putf dReading_run_79 qf_Reading_56 pw_4_5 hR.1 rfl rfl ?_
    refine go_nm (fun hnk1 enk1 => ?_)
    have gsk1 : Sm h hnk1 r 1 := by rw [enk1]; exact (Sm.put' (Sm.refl _ _ _) _ (by omega) (by omega))
    have hRk1 := ReA.put (g := upd S.2.2 2 (S.2.2 2 + (12 + S.2.2 5))) hR ((congrFun enk1 r).trans (pmU_s _ _ _)) gsk1
    have sk1 := hs.trans (gsk1.sub (a := r) (n := 15) (by omega) (by omega))
    refine go_iinc dReading_run_82 rfl (congrArg (_ + ·) lit1) ?_
    refine go_goto (tgt := 6) dReading_run_85 ?_
    exact go_at (hk _ _ (by rw [if_pos c1]; exact hRk1) sk1) rfl (by rw [nI_succ i]; rfl) rfl rfl
set_option maxHeartbeats 4000000 in
theorem l_Reading_run {E : pmEv} {h0 : pmH} {z : Option Nat} {r : Nat} {p : aRow} {F : Int32 × Nat × aRs} (hS : SA E h0 r) (hN : p.2 ≤ 2000) : ∀ (n : Nat) (i : Nat) (a : Nat) (S : aRs) (h : pmH) (d : Bool), i + n = 2000 → a ≤ p.2 → p.2 < a + 12 * n → S.2.2 2 = nI a → S.2.2 1 = 0 → S.2.2 0 = 0 → RInv S a → ReA h r p S → Sm h0 h r 15 → F = rdL p n a S → Go E (mReading_run, h0, 0, 0) 6 [some (.ref r), some (.int (nI i))] [] (h, z, d) 0 0 (RetX none (fun h' => (∃ S', ReA h' r p S' ∧ rdE F S') ∧ Sm h0 h' r 15) z) := by
  intro n
  induction n with
  | zero =>
    intro i a S h d hi hap hlt ha h1 hw hI hR hs hF
    exact absurd hlt (by omega)
  | succ n ih =>
    intro i a S h d hi hap hlt ha h1 hw hI hR hs hF
    refine go_iload_n dReading_run_6 rfl ?_
    refine go_sipush (v := 2000) dReading_run_7 (by decide) ?_
    refine go_icmp_ge (tgt := 88) dReading_run_10 (fun c1 => ?_) (fun c1 => ?_)
    · exact absurd c1 (nI_ge (a := i) (b := 2000) (by omega) (by omega))
    · refine go_aload_n dReading_run_13 rfl ?_
      refine go_getf dReading_run_14 qf_Reading_35 hR.1 rfl ?_
      refine go_if_ne (tgt := 88) dReading_run_17 (fun c2 => ?_) (fun c2 => ?_)
      · exact absurd h1 c2
      · refine go_aload_n dReading_run_20 rfl ?_
        refine go_getf dReading_run_21 qf_Reading_39 hR.1 rfl ?_
        refine go_if_ne (tgt := 88) dReading_run_24 (fun c3 => ?_) (fun c3 => ?_)
        · exact absurd hw c3
        · refine go_aload_n dReading_run_27 rfl ?_
          refine go_aload_n dReading_run_28 rfl ?_
          refine go_virtX dReading_run_29 ok_mReading_readChunk im_mReading_readChunk se_mReading_readChunk qm_Reading_43 hR.1 (a_Reading_readChunk (hS.sm hs (by omega)) ha (by omega) hI hN hR) (fun hx4 d4 q4 => ?_) (hnp := np_mReading_readChunk)
          obtain ⟨⟨S4, hR4, es4, eq4⟩, t4⟩ := q4
          have s4 := hs.trans t4
          refine go_putf dReading_run_32 qf_Reading_35 pw_4_4 hR4.1 rfl rfl ?_
          refine go_nm (fun hnk1 enk1 => ?_)
          have gsk1 : Sm hx4 hnk1 r 1 := by rw [enk1]; exact (Sm.put' (Sm.refl _ _ _) _ (by omega) (by omega))
          have hRk1 := ReA.put (g := upd S4.2.2 1 (rcV p a S)) hR4 ((congrFun enk1 r).trans (pmU_s _ _ _)) gsk1
          have sk1 := s4.trans (gsk1.sub (a := r) (n := 15) (by omega) (by omega))
          refine go_aload_n dReading_run_35 rfl ?_
          refine go_getf dReading_run_36 qf_Reading_35 hRk1.1 rfl ?_
          refine go_if_ne (tgt := 59) dReading_run_39 (fun c5 => ?_) (fun c5 => ?_)
          · refine l_Reading_run_59 (by omega) hRk1 sk1 (fun hx6 dx6 hR6 hs6 => ?_)
            rw [if_neg (show ¬ upd S4.2.2 1 (rcV p a S) 1 = 0 from c5)] at hR6
            exact l_Reading_run_stop (by omega) hR6 hs6 (Or.inl c5) (by rw [hF, rdL, if_pos (show ¬ rcV p a S = 0 from c5)]; exact ⟨rfl, fun _ => ⟨(es4 2 (by omega)).trans ha, (es4 0 (by omega)).trans hw⟩, fun q => absurd q c5⟩)
          · have e0 : rcV p a S = 0 := c5
            obtain rfl := eq4 e0
            obtain ⟨l, hl2, el, hf, hlet⟩ := frV0 (rcV0 e0)
            have ln : lnN p a = l := by rw [lnN, el, nI_clamp (by omega)]
            have hI2 := rcS_inv hI e0
            refine go_aload_n dReading_run_42 rfl ?_
            refine go_getf dReading_run_43 qf_Reading_47 hRk1.1 rfl ?_
            refine go_ldc dReading_run_46 qc_Reading_52 ?_
            refine go_icmp_ne (tgt := 59) dReading_run_48 (fun c6 => ?_) (fun c6 => ?_)
            · refine l_Reading_run_59 (by omega) hRk1 sk1 (fun hx6 dx6 hR6 hs6 => ?_)
              rw [if_pos (show upd (rcS p a S).2.2 1 (rcV p a S) 1 = 0 from c5), e0] at hR6
              exact ih (i + 1) (a + 12 + lnN p a) (avS ((rcS p a S).1, (rcS p a S).2.1, upd (rcS p a S).2.2 1 0)) hx6 dx6 (by omega) (by omega) (by omega) (by show (rcS p a S).2.2 2 + (12 + (rcS p a S).2.2 5) = _; rw [es4 2 (by omega), ha, rcS_5, el, ln, show (12 : Int32) = nI 12 from rfl, nI_add, nI_add, Nat.add_assoc]) rfl ((es4 0 (by omega)).trans hw) hI2 hR6 hs6 (by rw [hF, rdL, if_neg (fun q => q e0), if_neg (show ¬ (rcS p a S).2.2 6 = 1229278788 from c6)])
            · refine go_aload_n dReading_run_51 rfl ?_
              refine go_aload_n dReading_run_52 rfl ?_
              refine go_virtX dReading_run_53 ok_mReading_end im_mReading_end se_mReading_end qm_Reading_53 hRk1.1 (a_Reading_end (S := ((rcS p a S).1, (rcS p a S).2.1, upd (rcS p a S).2.2 1 (rcV p a S))) hI2.2.1 (by have := hI2.2.2; show (rcS p a S).2.1.2 ≤ 4000; omega) hRk1) (fun hx7 d7 q7 => ?_) (hnp := np_mReading_end)
              obtain ⟨⟨S5, hR7, es5, eq5⟩, t5⟩ := q7
              have s7 := sk1.trans t5
              refine go_putf dReading_run_56 qf_Reading_35 pw_4_4 hR7.1 rfl rfl ?_
              refine go_nm (fun hnk2 enk2 => ?_)
              have gsk2 : Sm hx7 hnk2 r 1 := by rw [enk2]; exact (Sm.put' (Sm.refl _ _ _) _ (by omega) (by omega))
              have hRk2 := ReA.put (g := upd S5.2.2 1 (if enOk ((rcS p a S).1, (rcS p a S).2.1, upd (rcS p a S).2.2 1 (rcV p a S)) then 0 else 8)) hR7 ((congrFun enk2 r).trans (pmU_s _ _ _)) gsk2
              have sk2 := s7.trans (gsk2.sub (a := r) (n := 15) (by omega) (by omega))
              have e6 : (rcS p a S).2.2 6 = 1229278788 := c6
              refine l_Reading_run_59 (S := (S5.1, S5.2.1, upd S5.2.2 1 (if enOk ((rcS p a S).1, (rcS p a S).2.1, upd (rcS p a S).2.2 1 (rcV p a S)) then 0 else 8))) (by omega) hRk2 sk2 (fun hx8 dx8 hR8 hs8 => ?_)
              by_cases hh : enOk ((rcS p a S).1, (rcS p a S).2.1, upd (rcS p a S).2.2 1 (rcV p a S))
              · rw [if_pos (show (S5.1, S5.2.1, upd S5.2.2 1 (if enOk ((rcS p a S).1, (rcS p a S).2.1, upd (rcS p a S).2.2 1 (rcV p a S)) then 0 else 8)).2.2 1 = 0 from if_pos hh)] at hR8
                obtain rfl := eq5 hh
                exact l_Reading_run_stop (by omega) hR8 hs8 (Or.inr (show ¬ (1 : Int32) = 0 by decide)) (by rw [hF, rdL, if_neg (fun q => q e0), if_pos e6, if_pos (show enOk (rcS p a S) from hh)]; exact ⟨if_pos hh, fun q => absurd rfl q, fun _ => ⟨rfl, rfl, rfl, rfl⟩⟩)
              · have nz : ¬ (if enOk ((rcS p a S).1, (rcS p a S).2.1, upd (rcS p a S).2.2 1 (rcV p a S)) then 0 else 8) = (0 : Int32) := by rw [if_neg hh]; decide
                rw [if_neg (show ¬ (S5.1, S5.2.1, upd S5.2.2 1 (if enOk ((rcS p a S).1, (rcS p a S).2.1, upd (rcS p a S).2.2 1 (rcV p a S)) then 0 else 8)).2.2 1 = 0 from nz)] at hR8
                rw [if_neg hh] at es5
                exact l_Reading_run_stop (by omega) hR8 hs8 (Or.inl nz) (by rw [hF, rdL, if_neg (fun q => q e0), if_pos e6, if_neg (show ¬ enOk (rcS p a S) from hh)]; exact ⟨if_neg hh, fun _ => ⟨(congrFun es5 2).trans ((es4 2 (by omega)).trans ha), (congrFun es5 0).trans ((es4 0 (by omega)).trans hw)⟩, fun q => absurd q (show ¬ (8 : Int32) = 0 by decide)⟩)
set_option maxHeartbeats 4000000 in
theorem a_Reading_run {E : pmEv} {h : pmH} {z : Option Nat} {r : Nat} {p : aRow} {S : aRs} (hS : SA E h r) (hN : p.2 ≤ 2000) (hR : ReA h r p S) : Call E mReading_run [.ref r] h z 0 0 (RetX none (fun h' => (∃ S', ReA h' r p S' ∧ rdE (rdAll p S) S') ∧ Sm h h' r 15) z) := by
  have hs : Sm h h r 15 := Sm.refl _ _ _
  refine call_of (L := [some (.ref r), none]) ok_mReading_run (Nat.le_of_ble_eq_true rfl) ?_
  refine go_aload_n dReading_run_0 rfl ?_
  refine go_virtX dReading_run_1 ok_mReading_begin im_mReading_begin se_mReading_begin qm_Reading_32 hR.1 (a_Reading_begin hS hN hR) (fun hx1 d1 q1 => ?_) (hnp := np_mReading_begin)
  have hR1 := q1.1
  have s1 := hs.trans q1.2
  refine go_iconst (v := 0) dReading_run_4 (by decide) ?_
  refine go_istore_n dReading_run_5 ?_
  by_cases hh : hasM p
  · exact l_Reading_run hS hN 2000 0 8 _ _ _ (by omega) hh.1 (by omega) (by rw [begG, if_pos hh]; rfl) (by rw [begG, if_pos hh]; rfl) (by rw [begG, if_pos hh]; rfl) ⟨fun q => absurd (by rw [begG, if_pos hh]; rfl) q, by rw [begG, if_pos hh]; rfl, Nat.zero_le _⟩ hR1 s1 (by rw [rdAll, if_pos hh])
  · exact l_Reading_run_stop (i := 0) (by omega) hR1 s1 (Or.inl (by rw [begG, if_neg hh]; exact (show ¬ (1 : Int32) = 0 by decide))) (by rw [rdAll, if_neg hh]; exact ⟨by rw [begG, if_neg hh]; rfl, fun _ => ⟨by rw [begG, if_neg hh]; rfl, by rw [begG, if_neg hh]; rfl⟩, fun q => absurd q (show ¬ (1 : Int32) = 0 by decide)⟩)
