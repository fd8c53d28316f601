/-! ===== rows as bits ===== -/
/-- sample s of row y, as a number -/
def sN (π : aPic) (y s : Nat) : Nat := if s < π.1.1 * chN π.1.2.2.2 then (π.2.1 ((y * 12 + s / chN π.1.2.2.2) * 4 + s % chN π.1.2.2.2)).toNatClampNeg else 0
def bN (π : aPic) (y bit : Nat) : Nat := sN π y (bit / π.1.2.2.1) / 2 ^ (π.1.2.2.1 - 1 - bit % π.1.2.2.1) % 2
def fB (B : Nat → Nat) : Nat → Nat → Nat → Nat
  | _, 0, a => a
  | s, n + 1, a => fB B (s + 1) n (2 * a + B s)
theorem fB_add (B : Nat → Nat) : ∀ m s n a, fB B s (m + n) a = fB B (s + m) n (fB B s m a) := by
  intro m
  induction m with
  | zero => intro s n a; rw [Nat.zero_add]; rfl
  | succ m ih =>
    intro s n a
    rw [show m + 1 + n = (m + n) + 1 by omega, fB, ih, show s + 1 + m = s + (m + 1) by omega]
    rfl
theorem fB_snoc (B : Nat → Nat) (s n a : Nat) : fB B s (n + 1) a = 2 * fB B s n a + B (s + n) := by
  rw [fB_add]
  rfl
theorem fB_lt {B : Nat → Nat} (hB : ∀ i, B i ≤ 1) : ∀ n s, fB B s n 0 < 2 ^ n := by
  intro n
  induction n with
  | zero => intro s; show 0 < 1; omega
  | succ n ih =>
    intro s
    rw [fB_snoc, Nat.pow_succ]
    have := ih s
    have := hB (s + n)
    omega
theorem fB_zero {B : Nat → Nat} : ∀ n s a, (∀ i, s ≤ i → i < s + n → B i = 0) → fB B s n a = a * 2 ^ n := by
  intro n
  induction n with
  | zero => intro s a _; show a = a * 1; omega
  | succ n ih =>
    intro s a h
    rw [fB_snoc, ih s a (fun i h1 h2 => h i h1 (by omega)), h (s + n) (by omega) (by omega), Nat.pow_succ, Nat.add_zero, Nat.mul_comm (2 ^ n) 2, Nat.mul_left_comm]
theorem bN_le (π : aPic) (y i : Nat) : bN π y i ≤ 1 := by
  unfold bN
  omega
theorem fB_samp {π : aPic} {y s : Nat} (a : Nat) (hb : 0 < π.1.2.2.1) : ∀ k, k ≤ π.1.2.2.1 → fB (bN π y) (s * π.1.2.2.1) k a = a * 2 ^ k + sN π y s % 2 ^ π.1.2.2.1 / 2 ^ (π.1.2.2.1 - k) := by
  intro k
  induction k with
  | zero =>
    intro _
    rw [fB, Nat.sub_zero, Nat.div_eq_of_lt (Nat.mod_lt _ (Nat.two_pow_pos _))]
    show a = a * 1 + 0
    omega
  | succ k ih =>
    intro hk
    rw [fB_snoc, ih (by omega)]
    have e1 : (s * π.1.2.2.1 + k) / π.1.2.2.1 = s := by rw [Nat.mul_comm, Nat.mul_add_div hb, Nat.div_eq_of_lt (by omega), Nat.add_zero]
    have e2 : (s * π.1.2.2.1 + k) % π.1.2.2.1 = k := by rw [Nat.mul_comm, Nat.mul_add_mod, Nat.mod_eq_of_lt (by omega)]
    unfold bN
    rw [e1, e2]
    generalize π.1.2.2.1 = b at *
    generalize sN π y s = v at *
    have e3 : b - k = (b - 1 - k) + 1 := by omega
    have e4 : b - (k + 1) = b - 1 - k := by omega
    rw [e3, e4, Nat.pow_succ 2 (b - 1 - k), ← Nat.div_div_eq_div_mul, Nat.pow_succ 2 k]
    have e5 : v / 2 ^ (b - 1 - k) % 2 = v % 2 ^ b / 2 ^ (b - 1 - k) % 2 := by
      rw [show b = (b - 1 - k) + (k + 1) by omega, Nat.pow_add]
      rw [show (b - 1 - k) + (k + 1) - 1 - k = b - 1 - k by omega]
      rw [Nat.mod_mul_right_div_self]
      rw [Nat.pow_succ, Nat.mul_comm (2 ^ k) 2, Nat.mod_mul_right_mod]
    rw [e5]
    generalize v % 2 ^ b / 2 ^ (b - 1 - k) = X
    rw [← Nat.mul_assoc]
    omega
theorem or_add {F v b : Nat} (hb : b ≤ 8) (hF : F * 2 ^ b < 2 ^ 16) (hv : v < 2 ^ b) : nI F <<< (nI b &&& 31) ||| nI v = nI (F * 2 ^ b + v) := by
  have e : (nI b &&& 31).toBitVec.smod 32 = BitVec.ofNat 32 b := by
    have q : ∀ b : Fin 9, (nI b.1 &&& 31).toBitVec.smod 32 = BitVec.ofNat 32 b.1 := by decide
    exact q ⟨b, by omega⟩
  rw [pk_shlN (nI b &&& 31) b (by rw [e, BitVec.toNat_ofNat]; omega) (by omega)]
  have e2 : F * 2 ^ b + v = F * 2 ^ b ||| v := by
    rw [Nat.mul_comm]
    exact Nat.two_pow_add_eq_or_of_lt hv F
  rw [e2]
  apply Int32.toBitVec_inj.mp
  rw [Int32.toBitVec_or]
  exact (BitVec.ofNat_or).symm
/-- behind S samples of row y: the bytes so far, the bits of the next one -/
def PK (π : aPic) (y : Nat) (p0 : aRow) (S : Nat) (q : pkS) : Prop := q.1.2 = p0.2 + S * π.1.2.2.1 / 8 ∧ q.2.2 = nI (S * π.1.2.2.1 % 8) ∧ q.2.1 = nI (fB (bN π y) (8 * (S * π.1.2.2.1 / 8)) (S * π.1.2.2.1 % 8) 0) ∧ (∀ j, j < p0.2 → q.1.1 j = p0.1 j) ∧ ∀ j, j < S * π.1.2.2.1 / 8 → q.1.1 (p0.2 + j) = nI (fB (bN π y) (8 * j) 8 0)
theorem PK.step {π : aPic} {y : Nat} {p0 : aRow} {S : Nat} {q : pkS} {v : Int32} (hb : π.1.2.2.1 = 1 ∨ π.1.2.2.1 = 2 ∨ π.1.2.2.1 = 4 ∨ π.1.2.2.1 = 8) (h : PK π y p0 S q) (hv : v = nI (sN π y S)) (hl : sN π y S < 2 ^ π.1.2.2.1) : PK π y p0 (S + 1) (pkStep π.1.2.2.1 v q) := by
  obtain ⟨h1, h2, h3, h4, h5⟩ := h
  have hsm := fun a => fB_samp (π := π) (y := y) (s := S) a (by omega) π.1.2.2.1 (Nat.le_refl _)
  have hlt := fB_lt (bN_le π y) (S * π.1.2.2.1 % 8) (8 * (S * π.1.2.2.1 / 8))
  have hSb : (S + 1) * π.1.2.2.1 = S * π.1.2.2.1 + π.1.2.2.1 := by rw [Nat.add_mul, Nat.one_mul]
  have hadd := fB_add (bN π y) (S * π.1.2.2.1 % 8) (8 * (S * π.1.2.2.1 / 8)) π.1.2.2.1 0
  have hst : 8 * (S * π.1.2.2.1 / 8) + S * π.1.2.2.1 % 8 = S * π.1.2.2.1 := by omega
  rw [hst, hsm, Nat.sub_self, Nat.pow_zero, Nat.div_one, Nat.mod_eq_of_lt hl] at hadd
  have hmb : S * π.1.2.2.1 % 8 + π.1.2.2.1 ≤ 8 := by
    have hd : S * π.1.2.2.1 % 8 % π.1.2.2.1 = 0 := by
      rcases hb with e | e | e | e <;> rw [e] <;> omega
    rcases hb with e | e | e | e <;> rw [e] at hd ⊢ <;> omega
  have hpw : fB (bN π y) (8 * (S * π.1.2.2.1 / 8)) (S * π.1.2.2.1 % 8) 0 * 2 ^ π.1.2.2.1 < 2 ^ 16 := by
    have a1 : fB (bN π y) (8 * (S * π.1.2.2.1 / 8)) (S * π.1.2.2.1 % 8) 0 < 2 ^ 8 := Nat.lt_of_lt_of_le hlt (Nat.pow_le_pow_right (by omega) (by omega))
    have a2 : 2 ^ π.1.2.2.1 ≤ 2 ^ 8 := Nat.pow_le_pow_right (by omega) (by omega)
    exact Nat.lt_of_lt_of_le (Nat.mul_lt_mul_of_lt_of_le a1 a2 (Nat.two_pow_pos _)) (by decide)
  have hval : q.2.1 <<< (nI π.1.2.2.1 &&& 31) ||| v = nI (fB (bN π y) (8 * (S * π.1.2.2.1 / 8)) (S * π.1.2.2.1 % 8 + π.1.2.2.1) 0) := by
    rw [h3, hv, or_add (by omega) hpw hl, hadd]
  unfold PK pkStep
  rw [hval, hSb]
  by_cases e : S * π.1.2.2.1 % 8 + π.1.2.2.1 = 8
  · rw [if_pos (by rw [h2, nI_add, e]; rfl), e]
    have d1 : (S * π.1.2.2.1 + π.1.2.2.1) / 8 = S * π.1.2.2.1 / 8 + 1 := by omega
    have d2 : (S * π.1.2.2.1 + π.1.2.2.1) % 8 = 0 := by omega
    rw [d1, d2]
    refine ⟨by show q.1.2 + 1 = _; omega, rfl, rfl, fun j hj => ?_, fun j hj => ?_⟩
    · show upd q.1.1 q.1.2 _ j = _
      rw [pk_un (by omega)]
      exact h4 j hj
    · show upd q.1.1 q.1.2 _ (p0.2 + j) = _
      by_cases e2 : j = S * π.1.2.2.1 / 8
      · subst e2
        rw [← h1, pk_us]
      · rw [pk_un (by omega)]
        exact h5 j (by omega)
  · rw [if_neg (fun x => e (by rw [h2, nI_add] at x; exact (nI_inj (b := 8) (by omega) (by omega)).mp x))]
    have d1 : (S * π.1.2.2.1 + π.1.2.2.1) / 8 = S * π.1.2.2.1 / 8 := by omega
    have d2 : (S * π.1.2.2.1 + π.1.2.2.1) % 8 = S * π.1.2.2.1 % 8 + π.1.2.2.1 := by omega
    rw [d1, d2]
    exact ⟨h1, by rw [h2, nI_add], rfl, h4, h5⟩
/-- the picture's samples are numbers of its bits -/
def smB (π : aPic) : Prop := ∀ y, y < π.1.2.1 → ∀ s, s < π.1.1 * chN π.1.2.2.2 → π.2.1 ((y * 12 + s / chN π.1.2.2.2) * 4 + s % chN π.1.2.2.2) = nI (sN π y s) ∧ sN π y s < 2 ^ π.1.2.2.1
theorem PK.in_ {π : aPic} {y x : Nat} {p0 : aRow} (hb : π.1.2.2.1 = 1 ∨ π.1.2.2.1 = 2 ∨ π.1.2.2.1 = 4 ∨ π.1.2.2.1 = 8) (hs : smB π) (hy : y < π.1.2.1) (hx : x < π.1.1) : ∀ (n u : Nat) (q : pkS), u + n = chN π.1.2.2.2 → PK π y p0 (x * chN π.1.2.2.2 + u) q → PK π y p0 (x * chN π.1.2.2.2 + chN π.1.2.2.2) (pkIn π y x n u q) := by
  have hc := chN_le π.1.2.2.2
  intro n
  induction n with
  | zero => intro u q hu h; rw [show chN π.1.2.2.2 = u by omega] at h ⊢; exact h
  | succ n ih =>
    intro u q hu h
    have hlt : x * chN π.1.2.2.2 + u < π.1.1 * chN π.1.2.2.2 := Nat.lt_of_lt_of_le (show x * chN π.1.2.2.2 + u < (x + 1) * chN π.1.2.2.2 by rw [Nat.add_mul, Nat.one_mul]; omega) (Nat.mul_le_mul_right _ hx)
    have hv := hs y hy _ hlt
    have e1 : (x * chN π.1.2.2.2 + u) / chN π.1.2.2.2 = x := by rw [Nat.mul_comm, Nat.mul_add_div (by omega), Nat.div_eq_of_lt (by omega), Nat.add_zero]
    have e2 : (x * chN π.1.2.2.2 + u) % chN π.1.2.2.2 = u := by rw [Nat.mul_comm, Nat.mul_add_mod, Nat.mod_eq_of_lt (by omega)]
    rw [e1, e2] at hv
    exact ih (u + 1) _ (by omega) (PK.step hb h hv.1 hv.2)
theorem PK.out {π : aPic} {y : Nat} {p0 : aRow} (hb : π.1.2.2.1 = 1 ∨ π.1.2.2.1 = 2 ∨ π.1.2.2.1 = 4 ∨ π.1.2.2.1 = 8) (hs : smB π) (hy : y < π.1.2.1) : ∀ (n x : Nat) (q : pkS), x + n = π.1.1 → PK π y p0 (x * chN π.1.2.2.2) q → PK π y p0 (π.1.1 * chN π.1.2.2.2) (pkOut π y n x q) := by
  intro n
  induction n with
  | zero => intro x q hx h; rw [show π.1.1 = x by omega]; exact h
  | succ n ih =>
    intro x q hx h
    have h2 := PK.in_ hb hs hy (by omega) (chN π.1.2.2.2) 0 q (by omega) h
    refine ih (x + 1) _ (by omega) ?_
    rw [Nat.add_mul, Nat.one_mul]
    exact h2
theorem shl_n {F k : Nat} (hk : k ≤ 8) (hF : F < 2 ^ 8) : nI F <<< (nI k &&& 31) = nI (F * 2 ^ k) := by
  have e : (nI k &&& 31).toBitVec.smod 32 = BitVec.ofNat 32 k := by
    have q : ∀ b : Fin 9, (nI b.1 &&& 31).toBitVec.smod 32 = BitVec.ofNat 32 b.1 := by decide
    exact q ⟨k, by omega⟩
  have a2 : 2 ^ k ≤ 2 ^ 8 := Nat.pow_le_pow_right (by omega) hk
  exact pk_shlN (nI k &&& 31) k (by rw [e, BitVec.toNat_ofNat]; omega) (Nat.lt_of_lt_of_le (Nat.mul_lt_mul_of_lt_of_le hF a2 (Nat.two_pow_pos _)) (by decide))
theorem bN_out {π : aPic} {y i : Nat} (hb : 0 < π.1.2.2.1) (h : rbN π.1 ≤ i) : bN π y i = 0 := by
  have e : ¬ i / π.1.2.2.1 < π.1.1 * chN π.1.2.2.2 := by
    intro q
    have := (Nat.div_lt_iff_lt_mul hb).mp q
    unfold rbN at h
    omega
  unfold bN sN
  rw [if_neg e, Nat.zero_div]
/-- a row: a byte 0, then its bits -/
theorem PK.row {π : aPic} {y : Nat} (ho : okN π.1) (hs : smB π) (hy : y < π.1.2.1) (p : aRow) : (∀ j, j < p.2 → (pkEnd (pkOut π y π.1.1 0 (wA p 0, 0, 0))).1 j = p.1 j) ∧ (pkEnd (pkOut π y π.1.1 0 (wA p 0, 0, 0))).1 p.2 = 0 ∧ ∀ j, j < (rbN π.1 + 7) / 8 → (pkEnd (pkOut π y π.1.1 0 (wA p 0, 0, 0))).1 (p.2 + 1 + j) = nI (fB (bN π y) (8 * j) 8 0) := by
  have hb := ho.b
  have h0 : PK π y (wA p 0) (0 * chN π.1.2.2.2) (wA p 0, 0, 0) := by
    unfold PK
    rw [Nat.zero_mul, Nat.zero_mul]
    exact ⟨rfl, rfl, rfl, fun _ _ => rfl, fun j hj => absurd hj (Nat.not_lt_zero _)⟩
  obtain ⟨h1, h2, h3, h4, h5⟩ := PK.out ho.bb hs hy π.1.1 0 _ (by omega) h0
  have eT : π.1.1 * chN π.1.2.2.2 * π.1.2.2.1 = rbN π.1 := rfl
  rw [eT] at h1 h2 h3 h5
  generalize pkOut π y π.1.1 0 (wA p 0, 0, 0) = q at *
  have ep : (wA p 0).2 = p.2 + 1 := rfl
  rw [ep] at h1 h4 h5
  have v0 : (wA p 0).1 p.2 = 0 := pk_us
  have vj : ∀ j, j < p.2 → (wA p 0).1 j = p.1 j := fun j hj => pk_un (by omega)
  have hlt := fB_lt (bN_le π y) (rbN π.1 % 8) (8 * (rbN π.1 / 8))
  unfold pkEnd
  by_cases e : rbN π.1 % 8 = 0
  · rw [if_neg (by rw [h2, e]; decide)]
    exact ⟨fun j hj => (h4 j (by omega)).trans (vj j hj), (h4 p.2 (by omega)).trans v0, fun j hj => h5 j (by omega)⟩
  · rw [if_pos (by rw [h2]; exact nI_lt (a := 0) (by omega) (by omega))]
    have hF : fB (bN π y) (8 * (rbN π.1 / 8)) (rbN π.1 % 8) 0 < 2 ^ 8 := Nat.lt_of_lt_of_le hlt (Nat.pow_le_pow_right (by omega) (by omega))
    have hv : q.2.1 <<< ((8 - q.2.2) &&& 31) = nI (fB (bN π y) (8 * (rbN π.1 / 8)) 8 0) := by
      rw [h3, h2, show (8 : Int32) = nI 8 from rfl, pk_sub (by omega), shl_n (by omega) hF]
      have e8 := fB_add (bN π y) (rbN π.1 % 8) (8 * (rbN π.1 / 8)) (8 - rbN π.1 % 8) 0
      have z8 := fB_zero (B := bN π y) (8 - rbN π.1 % 8) (8 * (rbN π.1 / 8) + rbN π.1 % 8) (fB (bN π y) (8 * (rbN π.1 / 8)) (rbN π.1 % 8) 0) (fun i h1 _ => bN_out (by omega) (by omega))
      rw [show rbN π.1 % 8 + (8 - rbN π.1 % 8) = 8 by omega, z8] at e8
      rw [e8]
    rw [hv]
    refine ⟨fun j hj => ?_, ?_, fun j hj => ?_⟩
    · show upd q.1.1 q.1.2 _ j = _
      rw [pk_un (by omega)]; exact (h4 j (by omega)).trans (vj j hj)
    · show upd q.1.1 q.1.2 _ p.2 = _
      rw [pk_un (by omega)]; exact (h4 p.2 (by omega)).trans v0
    · show upd q.1.1 q.1.2 _ (p.2 + 1 + j) = _
      by_cases e2 : j = rbN π.1 / 8
      · subst e2
        rw [← h1, pk_us]
      · rw [pk_un (by omega)]; exact h5 j (by omega)
/-- byte i of the rows -/
def rwB (π : aPic) (y i : Nat) : Nat := if i % rlN π.1 = 0 then 0 else fB (bN π (y + i / rlN π.1)) (8 * (i % rlN π.1 - 1)) 8 0
theorem PK.all {π : aPic} (ho : okN π.1) (hs : smB π) : ∀ (n y : Nat) (p : aRow), y + n ≤ π.1.2.1 → (∀ j, j < p.2 → (pkAll π n y p).1 j = p.1 j) ∧ ∀ i, i < n * rlN π.1 → (pkAll π n y p).1 (p.2 + i) = nI (rwB π y i) := by
  have hr : 0 < rlN π.1 := by unfold rlN; omega
  intro n
  induction n with
  | zero => intro y p _; exact ⟨fun _ _ => rfl, fun i hi => absurd hi (by rw [Nat.zero_mul]; omega)⟩
  | succ n ih =>
    intro y p hy
    obtain ⟨a1, a2, a3⟩ := PK.row ho hs (show y < π.1.2.1 by omega) p
    have a4 := pkRow_2 ho y p
    rw [pkAll]
    generalize pkEnd (pkOut π y π.1.1 0 (wA p 0, 0, 0)) = r at *
    obtain ⟨b1, b2⟩ := ih (y + 1) r (by omega)
    refine ⟨fun j hj => (b1 j (by omega)).trans (a1 j hj), fun i hi => ?_⟩
    rw [Nat.add_mul, Nat.one_mul] at hi
    by_cases e : i < rlN π.1
    · rw [b1 (p.2 + i) (by omega)]
      unfold rwB
      rw [Nat.mod_eq_of_lt e, Nat.div_eq_of_lt e, Nat.add_zero]
      by_cases e0 : i = 0
      · subst e0
        rw [if_pos rfl]; exact a2
      · rw [if_neg e0, ← a3 (i - 1) (by unfold rlN at e; omega), show p.2 + 1 + (i - 1) = p.2 + i by omega]
    · have h := b2 (i - rlN π.1) (by omega)
      rw [a4, show p.2 + rlN π.1 + (i - rlN π.1) = p.2 + i by omega] at h
      rw [h]
      unfold rwB
      have m1 : i % rlN π.1 = (i - rlN π.1) % rlN π.1 := Nat.mod_eq_sub_mod (by omega)
      have m2 : i / rlN π.1 = (i - rlN π.1) / rlN π.1 + 1 := Nat.div_eq_sub_div hr (by omega)
      rw [m1, m2, show y + ((i - rlN π.1) / rlN π.1 + 1) = y + 1 + (i - rlN π.1) / rlN π.1 by omega]
theorem pkC_v {π : aPic} (ho : okN π.1) (hs : smB π) {i : Nat} (hi : i < π.1.2.1 * rlN π.1) : (pkC π).1 i = nI (rwB π 0 i) := by
  have h := (PK.all ho hs π.1.2.1 0 (fun _ => 0, 0) (by omega)).2 i hi
  rw [Nat.zero_add] at h
  exact h
theorem rwB_lt (π : aPic) (y i : Nat) : rwB π y i ≤ 255 := by
  unfold rwB
  split
  · omega
  · have := fB_lt (bN_le π (y + i / rlN π.1)) 8 (8 * (i % rlN π.1 - 1))
    omega
