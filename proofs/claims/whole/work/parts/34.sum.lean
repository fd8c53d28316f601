/-! ===== sums: four bits at a time, and bit by bit ===== -/
def stB (v : BitVec 32) : BitVec 32 := if v.getLsbD 0 then (v >>> 1) ^^^ 0xEDB88320#32 else v >>> 1
def stN (v : Nat) : Nat := if v % 2 = 0 then v / 2 else (v / 2) ^^^ 3988292384
def itN : Nat → Nat → Nat
  | 0, v => v
  | n + 1, v => itN n (stN v)
theorem stB_n (v : BitVec 32) : (stB v).toNat = stN v.toNat := by
  unfold stB stN
  have e : v.getLsbD 0 = decide (v.toNat % 2 = 1) := by
    rw [BitVec.getLsbD, Nat.testBit_zero]
  by_cases h : v.toNat % 2 = 0
  · rw [if_pos h, e, if_neg (by simp; omega)]
    simp [BitVec.toNat_ushiftRight, Nat.shiftRight_eq_div_pow]
  · rw [if_neg h, e, if_pos (by simp; omega), BitVec.toNat_xor]
    simp [BitVec.toNat_ushiftRight, Nat.shiftRight_eq_div_pow]
theorem stB_x (x y : BitVec 32) : stB (x ^^^ y) = stB x ^^^ stB y := by
  unfold stB
  rw [BitVec.getLsbD_xor, BitVec.ushiftRight_xor_distrib]
  generalize x >>> 1 = a
  generalize y >>> 1 = b
  generalize 0xEDB88320#32 = P
  cases x.getLsbD 0 <;> cases y.getLsbD 0
  · rfl
  · exact BitVec.xor_assoc a b P
  · show a ^^^ b ^^^ P = a ^^^ P ^^^ b
    rw [BitVec.xor_assoc, BitVec.xor_comm b P, ← BitVec.xor_assoc]
  · show a ^^^ b = a ^^^ P ^^^ (b ^^^ P)
    rw [BitVec.xor_assoc, BitVec.xor_comm b P, ← BitVec.xor_assoc P P b, BitVec.xor_self, BitVec.zero_xor]
theorem stB_lo (Y : BitVec 32) : stB (stB (stB (stB (Y <<< 4)))) = Y <<< 4 >>> 4 := by
  have e1 : stB (Y <<< 4) = Y <<< 4 >>> 1 := by
    unfold stB
    rw [if_neg (by simp)]
  have e2 : stB (Y <<< 4 >>> 1) = Y <<< 4 >>> 2 := by
    unfold stB
    rw [if_neg (by simp)]
    exact (BitVec.shiftRight_add (Y <<< 4) 1 1).symm
  have e3 : stB (Y <<< 4 >>> 2) = Y <<< 4 >>> 3 := by
    unfold stB
    rw [if_neg (by simp)]
    exact (BitVec.shiftRight_add (Y <<< 4) 2 1).symm
  have e4 : stB (Y <<< 4 >>> 3) = Y <<< 4 >>> 4 := by
    unfold stB
    rw [if_neg (by simp)]
    exact (BitVec.shiftRight_add (Y <<< 4) 3 1).symm
  rw [e1, e2, e3, e4]
theorem stB_16 : ∀ n : Fin 16, stB (stB (stB (stB (BitVec.ofNat 32 n.1)))) = (bT n.1).toBitVec := by decide
theorem bT4_b (x : Int32) : (bT4 x).toBitVec = stB (stB (stB (stB x.toBitVec))) := by
  have b1 : ∀ i : Fin 4, (15#32).getLsbD i.1 = true := by decide
  have b2 : ∀ i : Fin 32, 4 ≤ i.1 → (15#32).getLsbD i.1 = false := by decide
  have hx : x.toBitVec = (x.toBitVec >>> 4 <<< 4) ^^^ (x.toBitVec &&& 15#32) := by
    apply BitVec.eq_of_getLsbD_eq
    intro i hi
    rw [BitVec.getLsbD_xor, BitVec.getLsbD_shiftLeft, BitVec.getLsbD_ushiftRight, BitVec.getLsbD_and]
    by_cases h4 : i < 4
    · rw [b1 ⟨i, h4⟩]
      simp [h4]
    · rw [b2 ⟨i, hi⟩ (by show 4 ≤ i; omega), show 4 + (i - 4) = i by omega]
      simp [h4, hi]
  have hA : x.toBitVec &&& 15#32 = BitVec.ofNat 32 (x.toBitVec.toNat % 16) := by
    apply BitVec.eq_of_toNat_eq
    rw [BitVec.toNat_and]
    have e : x.toBitVec.toNat &&& 15 = x.toBitVec.toNat % 16 := Nat.and_two_pow_sub_one_eq_mod _ 4
    show x.toBitVec.toNat &&& 15 = _
    rw [e, BitVec.toNat_ofNat]
    omega
  have hS : x.toBitVec >>> 4 <<< 4 >>> 4 = x.toBitVec >>> 4 := by
    apply BitVec.eq_of_getLsbD_eq
    intro i hi
    rw [BitVec.getLsbD_ushiftRight, BitVec.getLsbD_shiftLeft, BitVec.getLsbD_ushiftRight, BitVec.getLsbD_ushiftRight]
    by_cases h28 : i < 28
    · simp [show 4 + i < 32 by omega]
    · rw [show x.toBitVec.getLsbD (4 + i) = false from BitVec.getLsbD_of_ge _ _ (by omega)]
      simp [show ¬ 4 + i < 32 by omega]
  have hU : (u4 x 4).toBitVec = x.toBitVec >>> 4 := by
    apply BitVec.eq_of_toNat_eq
    rw [BitVec.toNat_ushiftRight, Nat.shiftRight_eq_div_pow]
    exact pk_ushr x 4 4 (by decide)
  have hI : (x &&& 15).toNatClampNeg = x.toBitVec.toNat % 16 := by
    rw [pk_and x (m := 15) 4 (by decide), nI_clamp (by omega)]
  unfold bT4
  rw [Int32.toBitVec_xor, hU, hI]
  conv => rhs; rw [hx]
  rw [stB_x, stB_x, stB_x, stB_x, stB_lo, hS, hA, ← stB_16 ⟨x.toBitVec.toNat % 16, by omega⟩]
theorem bT4_n (x : Int32) : (bT4 x).toBitVec.toNat = itN 4 x.toBitVec.toNat := by
  rw [bT4_b, stB_n, stB_n, stB_n, stB_n]
  rfl
theorem itN_add : ∀ a b v, itN (a + b) v = itN b (itN a v) := by
  intro a
  induction a with
  | zero => intro b v; rw [Nat.zero_add]; rfl
  | succ a ih => intro b v; rw [show a + 1 + b = (a + b) + 1 by omega]; exact ih b (stN v)
theorem stN_lt {v : Nat} (h : v < 2 ^ 32) : stN v < 2 ^ 32 := by
  unfold stN
  split
  · omega
  · exact Nat.xor_lt_two_pow (by omega) (by decide)
/-- the sum of n bytes from i on -/
def crR (f : Nat → Int32) : Nat → Nat → Int32 → Int32
  | 0, _, s => s
  | n + 1, i, s => crR f n (i + 1) (bT4 (bT4 (s ^^^ f i)))
theorem crR_b {f : Nat → Int32} {c : Nat} (hc : c ≤ 8192) : ∀ (n i : Nat) (s : Int32), i + n ≤ c → bCrc f c n (nI i) s = crR f n i s := by
  intro n
  induction n with
  | zero => intro i s _; rfl
  | succ n ih =>
    intro i s h
    simp only [bCrc, crR]
    rw [nI_a1, ih (i + 1) _ (by omega), bv_in hc (by omega)]
/-- the number of a sum -/
def uN4 (s : Int32) : Nat := s.toBitVec.toNat
theorem uN4_lt (s : Int32) : uN4 s < 2 ^ 32 := s.toBitVec.isLt
theorem uN4_step {s : Int32} {b : Nat} (hb : b ≤ 255) : uN4 (bT4 (bT4 (s ^^^ nI b))) = itN 8 (uN4 s ^^^ b) := by
  unfold uN4
  rw [bT4_n, bT4_n, Int32.toBitVec_xor, BitVec.toNat_xor, pk_tn (by omega), ← itN_add]
theorem uN4_nI (s : Int32) : nI (uN4 s) = s := by
  apply Int32.toBitVec_inj.mp
  apply BitVec.eq_of_toNat_eq
  exact pk_tn (uN4_lt s)
theorem cmp_n {s : Int32} : nI (4294967295 - uN4 s) = s ^^^ (-1) := by
  apply Int32.toBitVec_inj.mp
  apply BitVec.eq_of_toNat_eq
  rw [pk_tn (by have := uN4_lt s; omega), Int32.toBitVec_xor, BitVec.toNat_xor]
  have e : (-1 : Int32).toBitVec.toNat = 2 ^ 32 - 1 := by decide
  rw [e]
  have h := s.toBitVec.isLt
  have q := BitVec.toNat_not (x := s.toBitVec)
  have q2 : (~~~ s.toBitVec).toNat = s.toBitVec.toNat ^^^ (2 ^ 32 - 1) := by
    rw [← BitVec.xor_allOnes, BitVec.toNat_xor, BitVec.toNat_allOnes]
  rw [← q2, q]
  unfold uN4
  omega
theorem lN_xor {a b : Nat} : lN a ^^^ lN b = lN (a ^^^ b) := by
  apply Int64.toBitVec_inj.mp
  rw [Int64.toBitVec_xor]
  exact (BitVec.ofNat_xor).symm
theorem lc_e {x y : Int64} : lg_cmp x y = 0 ↔ x = y := by
  unfold lg_cmp
  by_cases h1 : x > y
  · rw [if_pos h1]
    exact ⟨fun q => absurd q (by decide), fun q => absurd h1 (by rw [q]; exact Int64.lt_irrefl)⟩
  · rw [if_neg h1]
    by_cases h2 : x = y
    · rw [if_pos h2]
      exact ⟨fun _ => h2, fun _ => rfl⟩
    · rw [if_neg h2]
      exact ⟨fun q => absurd q (by decide), fun q => absurd q h2⟩
