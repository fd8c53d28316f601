/-! ===== how long the rows and the files are ===== -/
theorem pkStep_T {b m : Nat} {v : Int32} {q : pkS} (hb : b = 1 ∨ b = 2 ∨ b = 4 ∨ b = 8) (hm : q.2.2 = nI m) (h8 : m < 8) (hd : m % b = 0) : ∃ m', (pkStep b v q).2.2 = nI m' ∧ m' < 8 ∧ m' % b = 0 ∧ 8 * (pkStep b v q).1.2 + m' = 8 * q.1.2 + m + b := by
  unfold pkStep
  have hle : m + b ≤ 8 := by rcases hb with rfl | rfl | rfl | rfl <;> omega
  by_cases e : m + b = 8
  · rw [if_pos (by rw [hm, nI_add, e]; rfl)]
    exact ⟨0, rfl, by omega, Nat.zero_mod _, by show 8 * (q.1.2 + 1) + 0 = _; omega⟩
  · rw [if_neg (fun x => e (by rw [hm, nI_add] at x; exact (nI_inj (b := 8) (by omega) (by omega)).mp x))]
    exact ⟨m + b, by rw [hm, nI_add], by omega, by rw [Nat.add_mod_right]; exact hd, by show 8 * q.1.2 + (m + b) = _; omega⟩
theorem pkIn_T {π : aPic} {y x : Nat} (hb : π.1.2.2.1 = 1 ∨ π.1.2.2.1 = 2 ∨ π.1.2.2.1 = 4 ∨ π.1.2.2.1 = 8) : ∀ (n u m : Nat) (q : pkS), q.2.2 = nI m → m < 8 → m % π.1.2.2.1 = 0 → ∃ m', (pkIn π y x n u q).2.2 = nI m' ∧ m' < 8 ∧ m' % π.1.2.2.1 = 0 ∧ 8 * (pkIn π y x n u q).1.2 + m' = 8 * q.1.2 + m + n * π.1.2.2.1 := by
  intro n
  induction n with
  | zero => intro u m q h1 h2 h3; exact ⟨m, h1, h2, h3, by rw [pkIn, Nat.zero_mul, Nat.add_zero]⟩
  | succ n ih =>
    intro u m q h1 h2 h3
    obtain ⟨m1, a1, a2, a3, a4⟩ := pkStep_T (v := π.2.1 ((y * 12 + x) * 4 + u)) hb h1 h2 h3
    obtain ⟨m2, b1, b2, b3, b4⟩ := ih (u + 1) m1 _ a1 a2 a3
    exact ⟨m2, b1, b2, b3, by have e := Nat.add_mul n 1 π.1.2.2.1; rw [pkIn, b4, a4]; omega⟩
theorem pkOut_T {π : aPic} {y : Nat} (hb : π.1.2.2.1 = 1 ∨ π.1.2.2.1 = 2 ∨ π.1.2.2.1 = 4 ∨ π.1.2.2.1 = 8) : ∀ (n x m : Nat) (q : pkS), q.2.2 = nI m → m < 8 → m % π.1.2.2.1 = 0 → ∃ m', (pkOut π y n x q).2.2 = nI m' ∧ m' < 8 ∧ m' % π.1.2.2.1 = 0 ∧ 8 * (pkOut π y n x q).1.2 + m' = 8 * q.1.2 + m + n * (chN π.1.2.2.2 * π.1.2.2.1) := by
  intro n
  induction n with
  | zero => intro x m q h1 h2 h3; exact ⟨m, h1, h2, h3, by rw [pkOut, Nat.zero_mul, Nat.add_zero]⟩
  | succ n ih =>
    intro x m q h1 h2 h3
    obtain ⟨m1, a1, a2, a3, a4⟩ := pkIn_T (y := y) (x := x) hb (chN π.1.2.2.2) 0 m q h1 h2 h3
    obtain ⟨m2, b1, b2, b3, b4⟩ := ih (x + 1) m1 _ a1 a2 a3
    exact ⟨m2, b1, b2, b3, by have e := Nat.add_mul n 1 (chN π.1.2.2.2 * π.1.2.2.1); rw [pkOut, b4, a4]; omega⟩
theorem pkEnd_2 {m : Nat} {q : pkS} (hm : q.2.2 = nI m) (h8 : m < 8) : (pkEnd q).2 = q.1.2 + (m + 7) / 8 := by
  unfold pkEnd
  by_cases e : m = 0
  · subst e
    rw [if_neg (by rw [hm]; decide)]
    rfl
  · rw [if_pos (by rw [hm]; exact nI_lt (a := 0) (by omega) (by omega))]
    show q.1.2 + 1 = _
    omega
theorem okN.bb {d : Nat × Nat × Nat × Nat} (h : okN d) : d.2.2.1 = 1 ∨ d.2.2.1 = 2 ∨ d.2.2.1 = 4 ∨ d.2.2.1 = 8 := by
  unfold okN at h
  omega
theorem pkRow_2 {π : aPic} (ho : okN π.1) (y : Nat) (p : aRow) : (pkEnd (pkOut π y π.1.1 0 (wA p 0, 0, 0))).2 = p.2 + rlN π.1 := by
  obtain ⟨m, a1, a2, -, a4⟩ := pkOut_T (y := y) ho.bb π.1.1 0 0 (wA p 0, 0, 0) rfl (by omega) (Nat.zero_mod _)
  rw [pkEnd_2 a1 a2]
  have e : (wA p 0).2 = p.2 + 1 := rfl
  have e2 : 8 * (pkOut π y π.1.1 0 (wA p 0, 0, 0)).1.2 + m = 8 * (p.2 + 1) + 0 + rbN π.1 := by rw [a4, rbN, Nat.mul_assoc]; rfl
  unfold rlN
  omega
theorem pkAll_2 {π : aPic} (ho : okN π.1) : ∀ (n y : Nat) (p : aRow), (pkAll π n y p).2 = p.2 + n * rlN π.1 := by
  intro n
  induction n with
  | zero => intro y p; rw [pkAll, Nat.zero_mul, Nat.add_zero]
  | succ n ih => intro y p; rw [pkAll, ih, pkRow_2 ho, Nat.succ_mul]; omega
theorem pkC_2 {π : aPic} (ho : okN π.1) : (pkC π).2 = π.1.2.1 * rlN π.1 := by
  rw [pkC, pkAll_2 ho]
  exact Nat.zero_add _
theorem pkC_le {π : aPic} (ho : okN π.1) : (pkC π).2 ≤ 588 ∧ (π.1.2.2.2 = 3 → (pkC π).2 ≤ 156) := by
  rw [pkC_2 ho, Nat.mul_comm]
  refine ⟨rlH_le ho, fun h3 => ?_⟩
  have h1 := ho.w
  have h2 := ho.b
  have e : rbN π.1 ≤ 96 := by
    unfold rbN
    rw [h3]
    show π.1.1 * 1 * π.1.2.2.1 ≤ 96
    rw [Nat.mul_one]
    exact Nat.le_trans (Nat.mul_le_mul h1.1 h2.2) (by decide)
  have e2 : rlN π.1 ≤ 13 := by unfold rlN; omega
  exact Nat.le_trans (Nat.mul_le_mul e2 h1.2) (by decide)
theorem wrAll_2 {π : aPic} (hc : π.2.2.1.2 ≤ 64) (hx : π.2.2.2.2.2.2.2 ≤ 6) (hq : (pkC π).2 ≤ 588) (hq3 : π.1.2.2.2 = 3 → (pkC π).2 ≤ 156) (hz : ∀ k, k < π.2.2.2.2.2.2.2 → π.2.2.2.2.2.1 k ≤ 40) (p : aRow) : (wrAll π p).2 ≤ 1115 := by
  have b3 : (w3 π p).2 ≤ 83 := (tgW_2 π.2.2.2.1 (w2 π p)).2
  have b4 : (w4 π p).2 + (pkC π).2 + 120 ≤ 791 := by
    unfold w4
    by_cases e : π.1.2.2.2 = 3
    · rw [if_pos e]
      have h1 := alW_2 π.2.2.1 (plW π.2.2.1 (w3 π p))
      have h2 := plW_2 π.2.2.1 (w3 π p)
      have h3 := hq3 e
      omega
    · rw [if_neg e]
      omega
  have b5 := wRs_2 (pkC π) 10 0 (w4 π p)
  have b6 := wXs_2 hz π.2.2.2.2.2.2.2 0 (wRs (pkC π) 10 0 (w4 π p)) (by omega)
  have b7 : (wrAll π p).2 = (wXs π.2.2.2.2 π.2.2.2.2.2.2.2 0 (wRs (pkC π) 10 0 (w4 π p))).2 + 12 := rfl
  omega
