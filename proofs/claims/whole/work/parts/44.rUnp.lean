/-! ===== the reference: unpack (by wip/whole/gen_rUnp.py) ===== -/
def bR (ρ : aRow) (i : Nat) : Nat := (ρ.1 (i / 8)).toNatClampNeg / 2 ^ (7 - i % 8) % 2
theorem byt_c {x : Int32} (h : byt x) : x = nI x.toNatClampNeg ∧ x.toNatClampNeg < 2 ^ 8 := by
  obtain ⟨l, hl, rfl⟩ := len_ex h
  rw [nI_clamp (by omega)]
  exact ⟨rfl, by omega⟩
theorem fB_in (ρ : aRow) (j t : Nat) : ∀ k, t + k ≤ 8 → fB (bR ρ) (8 * j + t) k 0 = (ρ.1 j).toNatClampNeg / 2 ^ (8 - t - k) % 2 ^ k := by
  intro k
  induction k with
  | zero => intro _; rw [Nat.pow_zero, Nat.mod_one]; rfl
  | succ k ih =>
    intro h
    rw [fB_snoc, ih (by omega)]
    unfold bR
    rw [show (8 * j + t + k) / 8 = j by omega, show 7 - (8 * j + t + k) % 8 = 8 - t - (k + 1) by omega, show 8 - t - k = (8 - t - (k + 1)) + 1 by omega, Nat.pow_succ 2 (8 - t - (k + 1)), ← Nat.div_div_eq_div_mul, Nat.pow_succ 2 k, Nat.mul_comm (2 ^ k) 2, Nat.mod_mul]
    omega
def vR (π : aPic) (ρ : aRow) (y s : Nat) : Nat := fB (bR ρ) (8 * (rlN π.1 * y + 1) + s * π.1.2.2.1) π.1.2.2.1 0
theorem vR_lt (π : aPic) (ρ : aRow) (y s : Nat) : vR π ρ y s < 2 ^ π.1.2.2.1 := fB_lt (fun i => by unfold bR; omega) _ _
theorem u4_n {r e : Nat} (hr : r < 2 ^ 8) (he : e ≤ 8) : u4 (nI r) (nI e) = nI (r / 2 ^ e) := by
  have q : ∀ e : Fin 9, (((nI e.1).toUInt32 &&& Int32.toUInt32 31).toBitVec % 32).toNat = e.1 := by decide
  exact pk_ushrN (by omega) _ e (q ⟨e, by omega⟩)
theorem and_gr {r b : Nat} (hr : r < 2 ^ 8) (hb : b ≤ 8) : nI r &&& gr (nI b) = nI (r % 2 ^ b) := by
  have q : ∀ b : Fin 9, (gr (nI b.1)).toBitVec.toNat = 2 ^ b.1 - 1 := by decide
  exact pk_andN (by omega) b (q ⟨b, by omega⟩)
theorem b8 {b s : Nat} (hb : b = 1 ∨ b = 2 ∨ b = 4 ∨ b = 8) : s * b % 8 + b ≤ 8 := by
  rcases hb with rfl | rfl | rfl | rfl <;> omega
theorem rl_ge (d : Nat × Nat × Nat × Nat) : rlN d = 1 + (rbN d + 7) / 8 := rfl
theorem upV_n {π : aPic} {ρ : aRow} {y x u : Nat} (ho : okN π.1) (hB : AllB ρ) (hc : ρ.2 = rlN π.1 * π.1.2.1) (hy : y < π.1.2.1) (hx : x < π.1.1) (hu : u < chN π.1.2.2.2) : upV π ρ y x u = nI (vR π ρ y (x * chN π.1.2.2.2 + u)) := by
  have hb := ho.b
  have h8 := rlH_le ho
  have hrl := rl_ge π.1
  have hm := Nat.mul_le_mul_left (rlN π.1) (show y + 1 ≤ π.1.2.1 from hy)
  rw [Nat.mul_succ] at hm
  have hs : x * chN π.1.2.2.2 + u + 1 ≤ π.1.1 * chN π.1.2.2.2 := by
    have := Nat.mul_le_mul_right (chN π.1.2.2.2) (show x + 1 ≤ π.1.1 from hx)
    rw [Nat.succ_mul] at this
    omega
  generalize hS : x * chN π.1.2.2.2 + u = s at hs
  have hsb := Nat.mul_le_mul_right π.1.2.2.1 hs
  rw [Nat.succ_mul] at hsb
  have hrb : rbN π.1 = π.1.1 * chN π.1.2.2.2 * π.1.2.2.1 := rfl
  have h3 := b8 (s := s) ho.bb
  unfold upV
  rw [hS]
  have e1 : nI (s * π.1.2.2.1) >>> (3 &&& 31) = nI (s * π.1.2.2.1 / 8) := pk_shrN (by omega) _ 3 (by decide)
  have e2 : nI (s * π.1.2.2.1) &&& 7 = nI (s * π.1.2.2.1 % 8) := pk_andN (by omega) 3 (by decide)
  rw [e1, e2, nI_add, bv_n (by omega) (by rw [Nat.mul_comm y]; omega), if_pos (by rw [Nat.mul_comm y]; omega), show (8 : Int32) = nI 8 from rfl, pk_sub (by omega), pk_sub (by omega)]
  obtain ⟨r1, r2⟩ := byt_c (hB (y * rlN π.1 + 1 + s * π.1.2.2.1 / 8) (by rw [Nat.mul_comm y]; omega))
  rw [r1, u4_n r2 (by omega), and_gr (Nat.lt_of_le_of_lt (Nat.div_le_self _ _) r2) (by omega)]
  unfold vR
  rw [show 8 * (rlN π.1 * y + 1) + s * π.1.2.2.1 = 8 * (y * rlN π.1 + 1 + s * π.1.2.2.1 / 8) + s * π.1.2.2.1 % 8 by rw [Nat.mul_comm y]; omega, fB_in ρ _ _ _ h3, show 8 - s * π.1.2.2.1 % 8 - π.1.2.2.1 = 8 - π.1.2.2.1 - s * π.1.2.2.1 % 8 by omega, r1, nI_clamp (by omega)]
abbrev kK (π : aPic) (ρ : aRow) (y s : Nat) : Prop := ¬ nI π.1.2.2.2 = 3 ∨ nI (vR π ρ y s) < nI π.2.2.1.2
def padB (π : aPic) (ρ : aRow) (y : Nat) : Nat := fB (bR ρ) (8 * (rlN π.1 * y + 1) + rbN π.1) (8 * rlN π.1 * (y + 1) - (8 * (rlN π.1 * y + 1) + rbN π.1)) 0
def rowP (π : aPic) (ρ : aRow) (y : Nat) : Prop := (ρ.1 (rlN π.1 * y) = 0 ∧ ∀ s, s < π.1.1 * chN π.1.2.2.2 → kK π ρ y s) ∧ padB π ρ y = 0
theorem pad_iff {π : aPic} {ρ : aRow} {y : Nat} (ho : okN π.1) (hB : AllB ρ) (hc : ρ.2 = rlN π.1 * π.1.2.1) (hy : y < π.1.2.1) : padB π ρ y = 0 ↔ fillOk π.1 (bv ρ.1 ρ.2 (nI (y * rlN π.1) + nI (rlN π.1) - 1)) := by
  have h8 := rlH_le ho
  have hrl := rl_ge π.1
  have hm := Nat.mul_le_mul_left (rlN π.1) (show y + 1 ≤ π.1.2.1 from hy)
  rw [Nat.mul_succ] at hm
  have e0 : 8 * rlN π.1 * (y + 1) = 8 * (rlN π.1 * y) + 8 * rlN π.1 := by rw [Nat.mul_succ, Nat.mul_assoc]
  rw [nI_add, show (1 : Int32) = nI 1 from rfl, pk_sub (by omega), bv_n (by omega) (by rw [Nat.mul_comm y]; omega), if_pos (by rw [Nat.mul_comm y]; omega)]
  obtain ⟨r1, r2⟩ := byt_c (hB (y * rlN π.1 + rlN π.1 - 1) (by rw [Nat.mul_comm y]; omega))
  unfold padB
  by_cases e : rbN π.1 % 8 = 0
  · refine ⟨fun _ => Or.inl e, fun _ => ?_⟩
    rw [show 8 * rlN π.1 * (y + 1) - (8 * (rlN π.1 * y + 1) + rbN π.1) = 0 by omega]
    rfl
  · rw [show 8 * rlN π.1 * (y + 1) - (8 * (rlN π.1 * y + 1) + rbN π.1) = 8 - rbN π.1 % 8 by omega, show 8 * (rlN π.1 * y + 1) + rbN π.1 = 8 * (y * rlN π.1 + rlN π.1 - 1) + rbN π.1 % 8 by rw [Nat.mul_comm y]; omega, fB_in ρ _ _ _ (by omega), show 8 - rbN π.1 % 8 - (8 - rbN π.1 % 8) = 0 by omega, Nat.pow_zero, Nat.div_one]
    have hlt : (ρ.1 (y * rlN π.1 + rlN π.1 - 1)).toNatClampNeg % 2 ^ (8 - rbN π.1 % 8) < 2 ^ 8 := Nat.lt_of_le_of_lt (Nat.mod_le _ _) r2
    unfold fillOk
    rw [r1, and_gr r2 (by omega), nI_clamp (by omega)]
    exact ⟨fun q => Or.inr (by rw [q]; rfl), fun q => (nI_inj (b := 0) (by omega) (by omega)).mp (q.resolve_left e)⟩
theorem up_iff {π : aPic} {ρ : aRow} {y : Nat} (ho : okN π.1) (hB : AllB ρ) (hc : ρ.2 = rlN π.1 * π.1.2.1) (hy : y < π.1.2.1) : rowP π ρ y ↔ upAt π ρ y := by
  have h8 := rlH_le ho
  have hb := ho.b
  have hrl := rl_ge π.1
  have hm := Nat.mul_le_mul_left (rlN π.1) (show y + 1 ≤ π.1.2.1 from hy)
  rw [Nat.mul_succ] at hm
  have hch := chN_le π.1.2.2.2
  have e0 : bv ρ.1 ρ.2 (nI (y * rlN π.1)) = ρ.1 (rlN π.1 * y) := by
    rw [bv_n (by omega) (by rw [Nat.mul_comm y]; omega), if_pos (by rw [Nat.mul_comm y]; omega), Nat.mul_comm y]
  have hv : ∀ s, vR π ρ y s < 256 := fun s => Nat.lt_of_lt_of_le (vR_lt π ρ y s) (Nat.pow_le_pow_right (by omega) hb.2)
  unfold rowP upAt
  rw [e0, pad_iff ho hB hc hy]
  refine ⟨fun q => ⟨q.1.1, q.2, fun x hx u hu => ?_⟩, fun q => ⟨⟨q.1, fun s hs => ?_⟩, q.2.1⟩⟩
  · have hs : x * chN π.1.2.2.2 + u < π.1.1 * chN π.1.2.2.2 := by
      have := Nat.mul_le_mul_right (chN π.1.2.2.2) (show x + 1 ≤ π.1.1 from hx)
      rw [Nat.succ_mul] at this
      omega
    rw [upV_n ho hB hc hy hx hu]
    have h1 := hv (x * chN π.1.2.2.2 + u)
    have h2 := vR_lt π ρ y (x * chN π.1.2.2.2 + u)
    refine ⟨nI_pos' (by omega), (le_gr hb.2).mpr fun q2 => ?_, (q.1.2 _ hs).elim Or.inl fun q => Or.inr ⟨nI_pos' (by omega), q⟩⟩
    have := (nI_leI (Nat.lt_of_le_of_lt (Nat.pow_le_pow_right (by omega) hb.2) (by decide)) (by omega)).mp q2
    omega
  · have hx : s / chN π.1.2.2.2 < π.1.1 := Nat.div_lt_of_lt_mul (by rw [Nat.mul_comm]; exact hs)
    have hu := Nat.mod_lt s (show 0 < chN π.1.2.2.2 by omega)
    have := q.2.2 _ hx _ hu
    rw [upV_n ho hB hc hy hx hu, Nat.mul_comm, Nat.div_add_mod] at this
    exact this.2.2.elim Or.inl fun q => Or.inr q.2
def SamI (π : aPic) (ρ : aRow) (f : Nat → Int32) (y s : Nat) : Prop := ∀ y' s', s' < π.1.1 * chN π.1.2.2.2 → (y' < y ∨ y' = y ∧ s' < s) → f ((y' * 12 + s' / chN π.1.2.2.2) * 4 + s' % chN π.1.2.2.2) = nI (vR π ρ y' s')
theorem SamI.zero {π : aPic} {ρ : aRow} {f : Nat → Int32} : SamI π ρ f 0 0 := fun y' s' _ h => by omega
theorem SamI.row {π : aPic} {ρ : aRow} {f : Nat → Int32} {y : Nat} (h : SamI π ρ f y (π.1.1 * chN π.1.2.2.2)) : SamI π ρ f (y + 1) 0 := fun y' s' hs h' => h y' s' hs (by omega)
theorem SamI.step {π : aPic} {ρ : aRow} {f : Nat → Int32} {y s : Nat} (h : SamI π ρ f y s) (hw : π.1.1 ≤ 12) (hs : s < π.1.1 * chN π.1.2.2.2) : SamI π ρ (upd f ((y * 12 + s / chN π.1.2.2.2) * 4 + s % chN π.1.2.2.2) (nI (vR π ρ y s))) y (s + 1) := fun y' s' hs' h' => by
  have hch := chN_le π.1.2.2.2
  have a1 : s / chN π.1.2.2.2 < π.1.1 := Nat.div_lt_of_lt_mul (by rw [Nat.mul_comm]; exact hs)
  have a2 : s' / chN π.1.2.2.2 < π.1.1 := Nat.div_lt_of_lt_mul (by rw [Nat.mul_comm]; exact hs')
  have b1 := Nat.mod_lt s (show 0 < chN π.1.2.2.2 by omega)
  have b2 := Nat.mod_lt s' (show 0 < chN π.1.2.2.2 by omega)
  have d1 := Nat.div_add_mod s (chN π.1.2.2.2)
  have d2 := Nat.div_add_mod s' (chN π.1.2.2.2)
  by_cases e : y' = y ∧ s' = s
  · obtain ⟨rfl, rfl⟩ := e
    exact pk_us
  · have hne : (y' * 12 + s' / chN π.1.2.2.2) * 4 + s' % chN π.1.2.2.2 ≠ (y * 12 + s / chN π.1.2.2.2) * 4 + s % chN π.1.2.2.2 := fun q => by
      have key : ∀ P P' R R' Y Y' : Nat, P < 12 → P' < 12 → R < 4 → R' < 4 → (Y' * 12 + P') * 4 + R' = (Y * 12 + P) * 4 + R → R' = R ∧ P' = P ∧ Y' = Y := by intros; omega
      obtain ⟨q1, q2, q3⟩ := key _ _ _ _ _ _ (Nat.lt_of_lt_of_le a1 hw) (Nat.lt_of_lt_of_le a2 hw) (Nat.lt_of_lt_of_le b1 hch.2) (Nat.lt_of_lt_of_le b2 hch.2) q
      rw [q1, q2] at d2
      exact e ⟨q3, by omega⟩
    rw [pk_un hne]
    exact h y' s' hs' (by omega)
theorem SamI.sa {π : aPic} {ρ : aRow} {f : Nat → Int32} (ho : okN π.1) (hB : AllB ρ) (hc : ρ.2 = rlN π.1 * π.1.2.1) (h : SamI π ρ f π.1.2.1 0) : SaR f (upS π ρ) π.1 := fun x hx y hy u hu => by
  have hch := chN_le π.1.2.2.2
  rw [upS_at ho hx hu, upV_n ho hB hc hy hx hu]
  have hs : x * chN π.1.2.2.2 + u < π.1.1 * chN π.1.2.2.2 := by
    have := Nat.mul_le_mul_right (chN π.1.2.2.2) (show x + 1 ≤ π.1.1 from hx)
    rw [Nat.succ_mul] at this
    omega
  have := h y (x * chN π.1.2.2.2 + u) hs (Or.inl hy)
  rw [Nat.mul_comm x, Nat.mul_add_div (by omega), Nat.div_eq_of_lt hu, Nat.mul_add_mod, Nat.mod_eq_of_lt hu, Nat.add_zero] at this
  rw [Nat.mul_comm x]
  exact this
def Gd (g : Int32) (P : Prop) : Prop := (g = 1 ∧ P) ∨ (g = 0 ∧ ¬ P)
theorem Gd.no {g : Int32} {P Q : Prop} (h : Gd g P) (e : g = 0) (q : Q → P) : Gd 0 Q := Or.inr ⟨rfl, fun x => h.elim (fun y => absurd (y.1.symm.trans e) (by decide)) (fun y => y.2 (q x))⟩
theorem Gd.yes {g : Int32} {P : Prop} (h : Gd g P) (e : ¬ g = 0) : P := h.elim (fun y => y.2) (fun y => absurd y.1 e)
theorem Gd.bI {g : Int32} {P Q : Prop} [Decidable Q] (h : Gd g P) (e : P ↔ Q) : g = bI Q := h.elim (fun y => y.1.trans (bI_t (e.mp y.2)).symm) (fun y => y.1.trans (bI_f fun q => y.2 (e.mpr q)).symm)
theorem allS1 {P : Nat → Prop} {n : Nat} (h : ∀ k, k < n → P k) (hn : P n) : ∀ k, k < n + 1 → P k := fun k hk => by
  by_cases e : k = n
  · rw [e]; exact hn
  · exact h k (by omega)
theorem Gd.nar {g : Int32} {P : Prop} (h : Gd g P) : narrow .boolean (.int g) = .int g := by
  rcases h with ⟨rfl, -⟩ | ⟨rfl, -⟩
  · rfl
  · rfl
abbrev enO (π : aPic) (ρ : aRow) : Prop := ρ.2 = rlN π.1 * π.1.2.1 ∧ upOk π ρ
theorem pad_lt {π : aPic} {ρ : aRow} {y : Nat} (ho : okN π.1) : padB π ρ y < 2 ^ 8 := by
  have hrl := rl_ge π.1
  have e0 : 8 * rlN π.1 * (y + 1) = 8 * (rlN π.1 * y) + 8 * rlN π.1 := by rw [Nat.mul_succ, Nat.mul_assoc]
  unfold padB
  exact Nat.lt_of_lt_of_le (fB_lt (fun i => by unfold bR; omega) _ _) (Nat.pow_le_pow_right (by omega) (by omega))
set_option maxHeartbeats 4000000 in
theorem l_Ref_rowBits {E : pmEv} {h : pmH} {z : Option Nat} {m : Nat} {g : Nat → Int32} {A : Nat → Nat → Int32} {ρ : aRow} {s0 k : Nat} (hk : s0 + k ≤ 8 * ρ.2) (hN : ρ.2 ≤ 2000) (hA14 : Ag ρ.2 (A 14) ρ.1) (hB : AllB ρ) (hR : RfA h m g A) : ∀ (n : Nat) (bit : Nat) (v : Nat), bit + n = s0 + k → Go E (mRef_rowBits, h, 0, 0) 5 [some (.ref m), some (.int (nI s0)), some (.int (nI k)), some (.int (nI (v))), some (.int (nI (bit)))] [] (h, z, false) 0 0 (Ret (some (.int (nI (fB (bR ρ) bit n v)))) (h, z, false)) := by
  intro n
  induction n with
  | zero =>
    intro bit v hb
    refine go_iload dRef_rowBits_5 rfl ?_
    refine go_iload_n dRef_rowBits_7 rfl ?_
    refine go_iload_n dRef_rowBits_8 rfl ?_
    refine go_iadd dRef_rowBits_9 ?_
    refine go_top (y := nI (s0 + k)) (by exact nI_add _ _) ?_
    refine go_icmp_ge (tgt := 45) dRef_rowBits_10 (fun c1 => ?_) (fun c1 => ?_)
    · refine go_iload_n dRef_rowBits_45 rfl ?_
      refine go_iret dRef_rowBits_46 rfl rfl ?_ (Nat.le_of_ble_eq_true rfl) (Nat.le_of_ble_eq_true rfl)
      exact ret_v
    · exact absurd (nI_le (a := s0 + k) (b := bit) (by omega) (by omega)) c1
  | succ n ih =>
    intro bit v hb
    refine go_iload dRef_rowBits_5 rfl ?_
    refine go_iload_n dRef_rowBits_7 rfl ?_
    refine go_iload_n dRef_rowBits_8 rfl ?_
    refine go_iadd dRef_rowBits_9 ?_
    refine go_top (y := nI (s0 + k)) (by exact nI_add _ _) ?_
    refine go_icmp_ge (tgt := 45) dRef_rowBits_10 (fun c1 => ?_) (fun c1 => ?_)
    · exact absurd c1 (nI_ge (a := bit) (b := s0 + k) (by omega) (by omega))
    · refine go_iconst (v := 2) dRef_rowBits_13 (by decide) ?_
      refine go_iload_n dRef_rowBits_14 rfl ?_
      refine go_imul dRef_rowBits_15 ?_
      refine go_aload_n dRef_rowBits_16 rfl ?_
      refine go_getf dRef_rowBits_17 qf_Ref_52 hR.1 rfl ?_
      refine go_iload dRef_rowBits_20 rfl ?_
      refine go_bipush (v := 8) dRef_rowBits_22 (by decide) ?_
      refine go_idiv dRef_rowBits_24 (by decide) ?_
      refine go_top (y := nI (bit / 8)) (by exact pk_div (d := 8) (by omega) (by omega) (by omega)) ?_
      refine go_iald dRef_rowBits_25 hR.2.2.2.2.2.2.2.2.2.2.2.2.2.2.2.1 (by first | exact Gd.nar (by assumption) | exact vp_in_nI (by omega) (by omega) | exact nI_ne0 (by omega) (by omega)) (congrArg _ (nI_clamp (by omega))) ?_
      have hy := byt_c (hB (bit / 8) (by omega))
      refine go_top (y := nI (ρ.1 (bit / 8)).toNatClampNeg) (by exact (hA14 _ (by omega)).trans hy.1) ?_
      refine go_bipush (v := 7) dRef_rowBits_26 (by decide) ?_
      refine go_iload dRef_rowBits_28 rfl ?_
      refine go_bipush (v := 8) dRef_rowBits_30 (by decide) ?_
      refine go_irem dRef_rowBits_32 (by decide) ?_
      refine go_top (y := nI (bit % 8)) (by exact pk_rem (d := 8) (by omega) (by omega) (by omega)) ?_
      refine go_isub dRef_rowBits_33 ?_
      refine go_top (y := nI (7 - bit % 8)) (by rw [show (7 : Int32) = nI 7 from rfl, pk_sub (by omega)]) ?_
      refine go_ishr dRef_rowBits_34 ?_
      refine go_top (y := nI ((ρ.1 (bit / 8)).toNatClampNeg / 2 ^ (7 - bit % 8))) (by exact sh_n (by omega) hy.2) ?_
      refine go_iconst (v := 1) dRef_rowBits_35 (by decide) ?_
      refine go_iand dRef_rowBits_36 ?_
      refine go_top (y := nI (bR ρ bit)) (by exact pk_andN (Nat.lt_of_le_of_lt (Nat.div_le_self _ _) (by omega)) 1 (by decide)) ?_
      refine go_iadd dRef_rowBits_37 ?_
      refine go_top (y := nI (2 * v + bR ρ bit)) (by rw [show (2 : Int32) = nI 2 from rfl, pk_mul, nI_add]) ?_
      refine go_istore_n dRef_rowBits_38 ?_
      refine go_iinc dRef_rowBits_39 rfl (congrArg (_ + ·) lit1) ?_
      refine go_goto (tgt := 5) dRef_rowBits_42 ?_
      exact go_at (ih (bit + 1) (2 * v + bR ρ bit) (by omega)) rfl (by rw [nI_succ bit]; rfl) rfl rfl
set_option maxHeartbeats 4000000 in
theorem r_rowBits {E : pmEv} {h : pmH} {z : Option Nat} {m : Nat} {g : Nat → Int32} {A : Nat → Nat → Int32} {ρ : aRow} {s0 k : Nat} (hk : s0 + k ≤ 8 * ρ.2) (hN : ρ.2 ≤ 2000) (hA14 : Ag ρ.2 (A 14) ρ.1) (hB : AllB ρ) (hR : RfA h m g A) : Call E mRef_rowBits [.ref m, .int (nI s0), .int (nI k)] h z 0 0 (Ret (some (.int (nI (fB (bR ρ) s0 k 0)))) (h, z, false)) := by
  refine call_of (L := [some (.ref m), some (.int (nI s0)), some (.int (nI k)), none, none]) ok_mRef_rowBits (Nat.le_of_ble_eq_true rfl) ?_
  refine go_iconst (v := 0) dRef_rowBits_0 (by decide) ?_
  refine go_istore_n dRef_rowBits_1 ?_
  refine go_iload_n dRef_rowBits_2 rfl ?_
  refine go_istore dRef_rowBits_3 ?_
  exact l_Ref_rowBits hk hN hA14 hB hR k s0 0 rfl
set_option maxHeartbeats 4000000 in
theorem l_Ref_unpIn {E : pmEv} {h0 : pmH} {z : Option Nat} {m : Nat} {g : Nat → Int32} {A : Nat → Nat → Int32} {π : aPic} {ρ : aRow} {y : Nat} {P1 : Prop} (hd : g 15 = nI π.1.1 ∧ g 16 = nI π.1.2.1 ∧ g 17 = nI π.1.2.2.1 ∧ g 18 = nI π.1.2.2.2) (h20 : g 20 = nI π.2.2.1.2) (hc64 : π.2.2.1.2 ≤ 64) (ho : okN π.1) (hN : ρ.2 ≤ 2000) (hA14 : Ag ρ.2 (A 14) ρ.1) (hB : AllB ρ) (hc : ρ.2 = rlN π.1 * π.1.2.1) (hy : y < π.1.2.1) : ∀ (n : Nat) (s : Nat) (gd : Int32) (f : Nat → Int32) (h : pmH) (d : Bool), s + n = π.1.1 * chN π.1.2.2.2 → RfA h m g (uA A 6 f) → Gd gd (P1 ∧ ∀ s', s' < s → kK π ρ y s') → SamI π ρ f y s → Sm h0 h m 17 → (∀ hx dx gd' f', RfA hx m g (uA A 6 f') → Gd gd' (P1 ∧ ∀ s', s' < (π.1.1 * chN π.1.2.2.2) → kK π ρ y s') → SamI π ρ f' y (π.1.1 * chN π.1.2.2.2) → Sm h0 hx m 17 → Go E (mRef_unpack, h0, 0, 0) 178 [some (.ref m), some (.int (nI (rlN π.1))), some (.int (nI (chN π.1.2.2.2))), some (.int (gd')), some (.int (nI (y))), some (.int (nI (8 * (rlN π.1 * y + 1) + (π.1.1 * chN π.1.2.2.2) * π.1.2.2.1))), some (.int (nI (π.1.1 * chN π.1.2.2.2))), none] [] (hx, z, dx) 0 0 (RetX (some (.int (bI (enO π ρ)))) (fun h' => ∃ f, RfA h' m g (uA A 6 f) ∧ (enO π ρ → SaR f (upS π ρ) π.1) ∧ Sm h0 h' m 17) z)) → Go E (mRef_unpack, h0, 0, 0) 89 [some (.ref m), some (.int (nI (rlN π.1))), some (.int (nI (chN π.1.2.2.2))), some (.int (gd)), some (.int (nI (y))), some (.int (nI (8 * (rlN π.1 * y + 1) + s * π.1.2.2.1))), some (.int (nI (s))), none] [] (h, z, d) 0 0 (RetX (some (.int (bI (enO π ρ)))) (fun h' => ∃ f, RfA h' m g (uA A 6 f) ∧ (enO π ρ → SaR f (upS π ρ) π.1) ∧ Sm h0 h' m 17) z) := by
  intro n
  induction n with
  | zero =>
    intro s gd f h d hs_ hR hg hS hs hk
    have hb := ho.b
    have hwh := ho.w
    have hkk := ho.k
    have hch := chN_le π.1.2.2.2
    have h588 := rlH_le ho
    have hrl := rl_ge π.1
    have hrb : rbN π.1 = π.1.1 * chN π.1.2.2.2 * π.1.2.2.1 := rfl
    have hrb2 := rbN_le ho
    have hwc : π.1.1 * chN π.1.2.2.2 ≤ 12 * 4 := Nat.mul_le_mul hwh.1 hch.2
    have hm := Nat.mul_le_mul_left (rlN π.1) (show y + 1 ≤ π.1.2.1 from hy)
    rw [Nat.mul_succ] at hm
    have hsb := Nat.mul_le_mul_right π.1.2.2.1 (show s ≤ π.1.1 * chN π.1.2.2.2 by omega)
    refine go_iload dRef_unpack_89 rfl ?_
    refine go_aload_n dRef_unpack_91 rfl ?_
    refine go_getf dRef_unpack_92 qf_Ref_233 hR.1 rfl ?_
    refine go_top (y := nI π.1.1) (by exact hd.1) ?_
    refine go_iload_n dRef_unpack_95 rfl ?_
    refine go_imul dRef_unpack_96 ?_
    refine go_top (y := nI (π.1.1 * chN π.1.2.2.2)) (by exact pk_mul _ _) ?_
    refine go_icmp_ge (tgt := 178) dRef_unpack_97 (fun c1 => ?_) (fun c1 => ?_)
    · obtain rfl : s = π.1.1 * chN π.1.2.2.2 := by omega
      exact hk h d gd f hR hg hS hs
    · exact absurd (nI_le (a := π.1.1 * chN π.1.2.2.2) (b := s) (by omega) (by omega)) c1
  | succ n ih =>
    intro s gd f h d hs_ hR hg hS hs hk
    have hb := ho.b
    have hwh := ho.w
    have hkk := ho.k
    have hch := chN_le π.1.2.2.2
    have h588 := rlH_le ho
    have hrl := rl_ge π.1
    have hrb : rbN π.1 = π.1.1 * chN π.1.2.2.2 * π.1.2.2.1 := rfl
    have hrb2 := rbN_le ho
    have hwc : π.1.1 * chN π.1.2.2.2 ≤ 12 * 4 := Nat.mul_le_mul hwh.1 hch.2
    have hm := Nat.mul_le_mul_left (rlN π.1) (show y + 1 ≤ π.1.2.1 from hy)
    rw [Nat.mul_succ] at hm
    have hsb := Nat.mul_le_mul_right π.1.2.2.1 (show s ≤ π.1.1 * chN π.1.2.2.2 by omega)
    refine go_iload dRef_unpack_89 rfl ?_
    refine go_aload_n dRef_unpack_91 rfl ?_
    refine go_getf dRef_unpack_92 qf_Ref_233 hR.1 rfl ?_
    refine go_top (y := nI π.1.1) (by exact hd.1) ?_
    refine go_iload_n dRef_unpack_95 rfl ?_
    refine go_imul dRef_unpack_96 ?_
    refine go_top (y := nI (π.1.1 * chN π.1.2.2.2)) (by exact pk_mul _ _) ?_
    refine go_icmp_ge (tgt := 178) dRef_unpack_97 (fun c1 => ?_) (fun c1 => ?_)
    · exact absurd c1 (nI_ge (a := s) (b := π.1.1 * chN π.1.2.2.2) (by omega) (by omega))
    · have hsb1 := Nat.mul_le_mul_right π.1.2.2.1 (show s + 1 ≤ π.1.1 * chN π.1.2.2.2 by omega)
      rw [Nat.succ_mul] at hsb1
      have hpos : ((y * 12 + s / chN π.1.2.2.2) * 4 + s % chN π.1.2.2.2) < 576 := pos_lt ho (Nat.div_lt_of_lt_mul (by rw [Nat.mul_comm]; omega)) hy (Nat.mod_lt _ (by omega))
      refine go_aload_n dRef_unpack_100 rfl ?_
      refine go_iload dRef_unpack_101 rfl ?_
      refine go_aload_n dRef_unpack_103 rfl ?_
      refine go_getf dRef_unpack_104 qf_Ref_239 hR.1 rfl ?_
      refine go_top (y := nI π.1.2.2.1) (by exact hd.2.2.1) ?_
      refine go_virtP dRef_unpack_107 ok_mRef_rowBits im_mRef_rowBits se_mRef_rowBits qm_Ref_271 hR.1 (r_rowBits (g := g) (A := uA A 6 f) (ρ := ρ) (s0 := 8 * (rlN π.1 * y + 1) + s * π.1.2.2.1) (k := π.1.2.2.1) (by omega) hN hA14 hB hR) ?_ (hnp := np_mRef_rowBits)
      refine go_istore dRef_unpack_110 ?_
      refine go_iload dRef_unpack_112 rfl ?_
      refine go_aload_n dRef_unpack_114 rfl ?_
      refine go_getf dRef_unpack_115 qf_Ref_239 hR.1 rfl ?_
      refine go_top (y := nI π.1.2.2.1) (by exact hd.2.2.1) ?_
      refine go_iadd dRef_unpack_118 ?_
      refine go_top (y := nI (8 * (rlN π.1 * y + 1) + (s + 1) * π.1.2.2.1)) (by rw [nI_add, Nat.add_assoc, ← Nat.succ_mul]) ?_
      refine go_istore dRef_unpack_119 ?_
      refine go_iload_n dRef_unpack_121 rfl ?_
      refine go_if_eq (tgt := 146) dRef_unpack_122 (fun c2 => ?_) (fun c2 => ?_)
      · refine go_iconst (v := 0) dRef_unpack_146 (by decide) ?_
        refine go_istore_n dRef_unpack_147 ?_
        refine go_aload_n dRef_unpack_148 rfl ?_
        refine go_getf dRef_unpack_149 qf_Ref_28 hR.1 rfl ?_
        refine go_iconst (v := 4) dRef_unpack_152 (by decide) ?_
        refine go_bipush (v := 12) dRef_unpack_153 (by decide) ?_
        refine go_iload dRef_unpack_155 rfl ?_
        refine go_imul dRef_unpack_157 ?_
        refine go_iload dRef_unpack_158 rfl ?_
        refine go_iload_n dRef_unpack_160 rfl ?_
        refine go_idiv dRef_unpack_161 (by first | exact Gd.nar (by assumption) | exact vp_in_nI (by omega) (by omega) | exact nI_ne0 (by omega) (by omega)) ?_
        refine go_top (y := nI (s / chN π.1.2.2.2)) (by exact pk_div (by omega) (by omega) (by omega)) ?_
        refine go_iadd dRef_unpack_162 ?_
        refine go_imul dRef_unpack_163 ?_
        refine go_iload dRef_unpack_164 rfl ?_
        refine go_iload_n dRef_unpack_166 rfl ?_
        refine go_irem dRef_unpack_167 (by first | exact Gd.nar (by assumption) | exact vp_in_nI (by omega) (by omega) | exact nI_ne0 (by omega) (by omega)) ?_
        refine go_top (y := nI (s % chN π.1.2.2.2)) (by exact pk_rem (by omega) (by omega) (by omega)) ?_
        refine go_iadd dRef_unpack_168 ?_
        refine go_top (y := nI ((y * 12 + s / chN π.1.2.2.2) * 4 + s % chN π.1.2.2.2)) (by rw [show (4 : Int32) = nI 4 from rfl, show (12 : Int32) = nI 12 from rfl, pk_mul, nI_add, pk_mul, nI_add, Nat.mul_comm 4, Nat.mul_comm 12]) ?_
        refine go_iload dRef_unpack_169 rfl ?_
        refine go_iast dRef_unpack_171 hR.2.2.2.2.2.2.2.1 (by first | exact Gd.nar (by assumption) | exact vp_in_nI (by omega) (by omega) | exact nI_ne0 (by omega) (by omega)) (nI_clamp (by omega)) ?_
        refine go_iinc dRef_unpack_172 rfl (congrArg (_ + ·) lit1) ?_
        refine go_goto (tgt := 89) dRef_unpack_175 ?_
        refine go_nm (fun hnk1 enk1 => ?_)
        have gsk1 : Sm h hnk1 m 17 := by rw [enk1]; exact (Sm.put' (Sm.refl _ _ _) _ (by omega) (by omega))
        have hRk1 : RfA hnk1 m (g) (uA A 6 (upd f ((y * 12 + s / chN π.1.2.2.2) * 4 + s % chN π.1.2.2.2) (nI (vR π ρ y s)))) := ⟨(congrFun enk1 m).trans ((pmU_n _ _ (by omega)).trans hR.1), (congrFun enk1 (m + 1)).trans ((pmU_n _ _ (by omega)).trans hR.2.1), (congrFun enk1 (m + 2)).trans ((pmU_n _ _ (by omega)).trans hR.2.2.1), (congrFun enk1 (m + 3)).trans ((pmU_n _ _ (by omega)).trans hR.2.2.2.1), (congrFun enk1 (m + 4)).trans ((pmU_n _ _ (by omega)).trans hR.2.2.2.2.1), (congrFun enk1 (m + 5)).trans ((pmU_n _ _ (by omega)).trans hR.2.2.2.2.2.1), (congrFun enk1 (m + 6)).trans ((pmU_n _ _ (by omega)).trans hR.2.2.2.2.2.2.1), (congrFun enk1 (m + 7)).trans (pmU_s _ _ _), (congrFun enk1 (m + 8)).trans ((pmU_n _ _ (by omega)).trans hR.2.2.2.2.2.2.2.2.1), (congrFun enk1 (m + 9)).trans ((pmU_n _ _ (by omega)).trans hR.2.2.2.2.2.2.2.2.2.1), (congrFun enk1 (m + 10)).trans ((pmU_n _ _ (by omega)).trans hR.2.2.2.2.2.2.2.2.2.2.1), (congrFun enk1 (m + 11)).trans ((pmU_n _ _ (by omega)).trans hR.2.2.2.2.2.2.2.2.2.2.2.1), (congrFun enk1 (m + 12)).trans ((pmU_n _ _ (by omega)).trans hR.2.2.2.2.2.2.2.2.2.2.2.2.1), (congrFun enk1 (m + 13)).trans ((pmU_n _ _ (by omega)).trans hR.2.2.2.2.2.2.2.2.2.2.2.2.2.1), (congrFun enk1 (m + 14)).trans ((pmU_n _ _ (by omega)).trans hR.2.2.2.2.2.2.2.2.2.2.2.2.2.2.1), (congrFun enk1 (m + 15)).trans ((pmU_n _ _ (by omega)).trans hR.2.2.2.2.2.2.2.2.2.2.2.2.2.2.2.1), (congrFun enk1 (m + 16)).trans ((pmU_n _ _ (by omega)).trans hR.2.2.2.2.2.2.2.2.2.2.2.2.2.2.2.2)⟩
        have sk1 := hs.trans gsk1
        refine go_fg 7 ?_
        exact go_at (ih (s + 1) 0 _ _ _ (by omega) hRk1 (Gd.no hg c2 (fun q => ⟨q.1, fun k hk => q.2 k (by omega)⟩)) (hS.step hwh.1 (by omega)) sk1 hk) rfl (by rw [nI_succ s]; rfl) rfl rfl
      · refine go_aload_n dRef_unpack_125 rfl ?_
        refine go_getf dRef_unpack_126 qf_Ref_224 hR.1 rfl ?_
        refine go_top (y := nI π.1.2.2.2) (by exact hd.2.2.2) ?_
        refine go_iconst (v := 3) dRef_unpack_129 (by decide) ?_
        refine go_icmp_ne (tgt := 142) dRef_unpack_130 (fun c3 => ?_) (fun c3 => ?_)
        · refine go_iconst (v := 1) dRef_unpack_142 (by decide) ?_
          refine go_goto (tgt := 147) dRef_unpack_143 ?_
          refine go_istore_n dRef_unpack_147 ?_
          refine go_aload_n dRef_unpack_148 rfl ?_
          refine go_getf dRef_unpack_149 qf_Ref_28 hR.1 rfl ?_
          refine go_iconst (v := 4) dRef_unpack_152 (by decide) ?_
          refine go_bipush (v := 12) dRef_unpack_153 (by decide) ?_
          refine go_iload dRef_unpack_155 rfl ?_
          refine go_imul dRef_unpack_157 ?_
          refine go_iload dRef_unpack_158 rfl ?_
          refine go_iload_n dRef_unpack_160 rfl ?_
          refine go_idiv dRef_unpack_161 (by first | exact Gd.nar (by assumption) | exact vp_in_nI (by omega) (by omega) | exact nI_ne0 (by omega) (by omega)) ?_
          refine go_top (y := nI (s / chN π.1.2.2.2)) (by exact pk_div (by omega) (by omega) (by omega)) ?_
          refine go_iadd dRef_unpack_162 ?_
          refine go_imul dRef_unpack_163 ?_
          refine go_iload dRef_unpack_164 rfl ?_
          refine go_iload_n dRef_unpack_166 rfl ?_
          refine go_irem dRef_unpack_167 (by first | exact Gd.nar (by assumption) | exact vp_in_nI (by omega) (by omega) | exact nI_ne0 (by omega) (by omega)) ?_
          refine go_top (y := nI (s % chN π.1.2.2.2)) (by exact pk_rem (by omega) (by omega) (by omega)) ?_
          refine go_iadd dRef_unpack_168 ?_
          refine go_top (y := nI ((y * 12 + s / chN π.1.2.2.2) * 4 + s % chN π.1.2.2.2)) (by rw [show (4 : Int32) = nI 4 from rfl, show (12 : Int32) = nI 12 from rfl, pk_mul, nI_add, pk_mul, nI_add, Nat.mul_comm 4, Nat.mul_comm 12]) ?_
          refine go_iload dRef_unpack_169 rfl ?_
          refine go_iast dRef_unpack_171 hR.2.2.2.2.2.2.2.1 (by first | exact Gd.nar (by assumption) | exact vp_in_nI (by omega) (by omega) | exact nI_ne0 (by omega) (by omega)) (nI_clamp (by omega)) ?_
          refine go_iinc dRef_unpack_172 rfl (congrArg (_ + ·) lit1) ?_
          refine go_goto (tgt := 89) dRef_unpack_175 ?_
          refine go_nm (fun hnk2 enk2 => ?_)
          have gsk2 : Sm h hnk2 m 17 := by rw [enk2]; exact (Sm.put' (Sm.refl _ _ _) _ (by omega) (by omega))
          have hRk2 : RfA hnk2 m (g) (uA A 6 (upd f ((y * 12 + s / chN π.1.2.2.2) * 4 + s % chN π.1.2.2.2) (nI (vR π ρ y s)))) := ⟨(congrFun enk2 m).trans ((pmU_n _ _ (by omega)).trans hR.1), (congrFun enk2 (m + 1)).trans ((pmU_n _ _ (by omega)).trans hR.2.1), (congrFun enk2 (m + 2)).trans ((pmU_n _ _ (by omega)).trans hR.2.2.1), (congrFun enk2 (m + 3)).trans ((pmU_n _ _ (by omega)).trans hR.2.2.2.1), (congrFun enk2 (m + 4)).trans ((pmU_n _ _ (by omega)).trans hR.2.2.2.2.1), (congrFun enk2 (m + 5)).trans ((pmU_n _ _ (by omega)).trans hR.2.2.2.2.2.1), (congrFun enk2 (m + 6)).trans ((pmU_n _ _ (by omega)).trans hR.2.2.2.2.2.2.1), (congrFun enk2 (m + 7)).trans (pmU_s _ _ _), (congrFun enk2 (m + 8)).trans ((pmU_n _ _ (by omega)).trans hR.2.2.2.2.2.2.2.2.1), (congrFun enk2 (m + 9)).trans ((pmU_n _ _ (by omega)).trans hR.2.2.2.2.2.2.2.2.2.1), (congrFun enk2 (m + 10)).trans ((pmU_n _ _ (by omega)).trans hR.2.2.2.2.2.2.2.2.2.2.1), (congrFun enk2 (m + 11)).trans ((pmU_n _ _ (by omega)).trans hR.2.2.2.2.2.2.2.2.2.2.2.1), (congrFun enk2 (m + 12)).trans ((pmU_n _ _ (by omega)).trans hR.2.2.2.2.2.2.2.2.2.2.2.2.1), (congrFun enk2 (m + 13)).trans ((pmU_n _ _ (by omega)).trans hR.2.2.2.2.2.2.2.2.2.2.2.2.2.1), (congrFun enk2 (m + 14)).trans ((pmU_n _ _ (by omega)).trans hR.2.2.2.2.2.2.2.2.2.2.2.2.2.2.1), (congrFun enk2 (m + 15)).trans ((pmU_n _ _ (by omega)).trans hR.2.2.2.2.2.2.2.2.2.2.2.2.2.2.2.1), (congrFun enk2 (m + 16)).trans ((pmU_n _ _ (by omega)).trans hR.2.2.2.2.2.2.2.2.2.2.2.2.2.2.2.2)⟩
          have sk2 := hs.trans gsk2
          refine go_fg 7 ?_
          exact go_at (ih (s + 1) 1 _ _ _ (by omega) hRk2 (Or.inl ⟨rfl, (hg.yes c2).1, allS1 (hg.yes c2).2 (Or.inl c3)⟩) (hS.step hwh.1 (by omega)) sk2 hk) rfl (by rw [nI_succ s]; rfl) rfl rfl
        · refine go_iload dRef_unpack_133 rfl ?_
          refine go_aload_n dRef_unpack_135 rfl ?_
          refine go_getf dRef_unpack_136 qf_Ref_242 hR.1 rfl ?_
          refine go_top (y := nI π.2.2.1.2) (by exact h20) ?_
          refine go_icmp_ge (tgt := 146) dRef_unpack_139 (fun c4 => ?_) (fun c4 => ?_)
          · refine go_iconst (v := 0) dRef_unpack_146 (by decide) ?_
            refine go_istore_n dRef_unpack_147 ?_
            refine go_aload_n dRef_unpack_148 rfl ?_
            refine go_getf dRef_unpack_149 qf_Ref_28 hR.1 rfl ?_
            refine go_iconst (v := 4) dRef_unpack_152 (by decide) ?_
            refine go_bipush (v := 12) dRef_unpack_153 (by decide) ?_
            refine go_iload dRef_unpack_155 rfl ?_
            refine go_imul dRef_unpack_157 ?_
            refine go_iload dRef_unpack_158 rfl ?_
            refine go_iload_n dRef_unpack_160 rfl ?_
            refine go_idiv dRef_unpack_161 (by first | exact Gd.nar (by assumption) | exact vp_in_nI (by omega) (by omega) | exact nI_ne0 (by omega) (by omega)) ?_
            refine go_top (y := nI (s / chN π.1.2.2.2)) (by exact pk_div (by omega) (by omega) (by omega)) ?_
            refine go_iadd dRef_unpack_162 ?_
            refine go_imul dRef_unpack_163 ?_
            refine go_iload dRef_unpack_164 rfl ?_
            refine go_iload_n dRef_unpack_166 rfl ?_
            refine go_irem dRef_unpack_167 (by first | exact Gd.nar (by assumption) | exact vp_in_nI (by omega) (by omega) | exact nI_ne0 (by omega) (by omega)) ?_
            refine go_top (y := nI (s % chN π.1.2.2.2)) (by exact pk_rem (by omega) (by omega) (by omega)) ?_
            refine go_iadd dRef_unpack_168 ?_
            refine go_top (y := nI ((y * 12 + s / chN π.1.2.2.2) * 4 + s % chN π.1.2.2.2)) (by rw [show (4 : Int32) = nI 4 from rfl, show (12 : Int32) = nI 12 from rfl, pk_mul, nI_add, pk_mul, nI_add, Nat.mul_comm 4, Nat.mul_comm 12]) ?_
            refine go_iload dRef_unpack_169 rfl ?_
            refine go_iast dRef_unpack_171 hR.2.2.2.2.2.2.2.1 (by first | exact Gd.nar (by assumption) | exact vp_in_nI (by omega) (by omega) | exact nI_ne0 (by omega) (by omega)) (nI_clamp (by omega)) ?_
            refine go_iinc dRef_unpack_172 rfl (congrArg (_ + ·) lit1) ?_
            refine go_goto (tgt := 89) dRef_unpack_175 ?_
            refine go_nm (fun hnk3 enk3 => ?_)
            have gsk3 : Sm h hnk3 m 17 := by rw [enk3]; exact (Sm.put' (Sm.refl _ _ _) _ (by omega) (by omega))
            have hRk3 : RfA hnk3 m (g) (uA A 6 (upd f ((y * 12 + s / chN π.1.2.2.2) * 4 + s % chN π.1.2.2.2) (nI (vR π ρ y s)))) := ⟨(congrFun enk3 m).trans ((pmU_n _ _ (by omega)).trans hR.1), (congrFun enk3 (m + 1)).trans ((pmU_n _ _ (by omega)).trans hR.2.1), (congrFun enk3 (m + 2)).trans ((pmU_n _ _ (by omega)).trans hR.2.2.1), (congrFun enk3 (m + 3)).trans ((pmU_n _ _ (by omega)).trans hR.2.2.2.1), (congrFun enk3 (m + 4)).trans ((pmU_n _ _ (by omega)).trans hR.2.2.2.2.1), (congrFun enk3 (m + 5)).trans ((pmU_n _ _ (by omega)).trans hR.2.2.2.2.2.1), (congrFun enk3 (m + 6)).trans ((pmU_n _ _ (by omega)).trans hR.2.2.2.2.2.2.1), (congrFun enk3 (m + 7)).trans (pmU_s _ _ _), (congrFun enk3 (m + 8)).trans ((pmU_n _ _ (by omega)).trans hR.2.2.2.2.2.2.2.2.1), (congrFun enk3 (m + 9)).trans ((pmU_n _ _ (by omega)).trans hR.2.2.2.2.2.2.2.2.2.1), (congrFun enk3 (m + 10)).trans ((pmU_n _ _ (by omega)).trans hR.2.2.2.2.2.2.2.2.2.2.1), (congrFun enk3 (m + 11)).trans ((pmU_n _ _ (by omega)).trans hR.2.2.2.2.2.2.2.2.2.2.2.1), (congrFun enk3 (m + 12)).trans ((pmU_n _ _ (by omega)).trans hR.2.2.2.2.2.2.2.2.2.2.2.2.1), (congrFun enk3 (m + 13)).trans ((pmU_n _ _ (by omega)).trans hR.2.2.2.2.2.2.2.2.2.2.2.2.2.1), (congrFun enk3 (m + 14)).trans ((pmU_n _ _ (by omega)).trans hR.2.2.2.2.2.2.2.2.2.2.2.2.2.2.1), (congrFun enk3 (m + 15)).trans ((pmU_n _ _ (by omega)).trans hR.2.2.2.2.2.2.2.2.2.2.2.2.2.2.2.1), (congrFun enk3 (m + 16)).trans ((pmU_n _ _ (by omega)).trans hR.2.2.2.2.2.2.2.2.2.2.2.2.2.2.2.2)⟩
            have sk3 := hs.trans gsk3
            refine go_fg 7 ?_
            exact go_at (ih (s + 1) 0 _ _ _ (by omega) hRk3 (Or.inr ⟨rfl, fun q => (q.2 s (by omega)).elim (fun x => x c3) (fun x => absurd x (Int32.not_lt.mpr c4))⟩) (hS.step hwh.1 (by omega)) sk3 hk) rfl (by rw [nI_succ s]; rfl) rfl rfl
          · refine go_iconst (v := 1) dRef_unpack_142 (by decide) ?_
            refine go_goto (tgt := 147) dRef_unpack_143 ?_
            refine go_istore_n dRef_unpack_147 ?_
            refine go_aload_n dRef_unpack_148 rfl ?_
            refine go_getf dRef_unpack_149 qf_Ref_28 hR.1 rfl ?_
            refine go_iconst (v := 4) dRef_unpack_152 (by decide) ?_
            refine go_bipush (v := 12) dRef_unpack_153 (by decide) ?_
            refine go_iload dRef_unpack_155 rfl ?_
            refine go_imul dRef_unpack_157 ?_
            refine go_iload dRef_unpack_158 rfl ?_
            refine go_iload_n dRef_unpack_160 rfl ?_
            refine go_idiv dRef_unpack_161 (by first | exact Gd.nar (by assumption) | exact vp_in_nI (by omega) (by omega) | exact nI_ne0 (by omega) (by omega)) ?_
            refine go_top (y := nI (s / chN π.1.2.2.2)) (by exact pk_div (by omega) (by omega) (by omega)) ?_
            refine go_iadd dRef_unpack_162 ?_
            refine go_imul dRef_unpack_163 ?_
            refine go_iload dRef_unpack_164 rfl ?_
            refine go_iload_n dRef_unpack_166 rfl ?_
            refine go_irem dRef_unpack_167 (by first | exact Gd.nar (by assumption) | exact vp_in_nI (by omega) (by omega) | exact nI_ne0 (by omega) (by omega)) ?_
            refine go_top (y := nI (s % chN π.1.2.2.2)) (by exact pk_rem (by omega) (by omega) (by omega)) ?_
            refine go_iadd dRef_unpack_168 ?_
            refine go_top (y := nI ((y * 12 + s / chN π.1.2.2.2) * 4 + s % chN π.1.2.2.2)) (by rw [show (4 : Int32) = nI 4 from rfl, show (12 : Int32) = nI 12 from rfl, pk_mul, nI_add, pk_mul, nI_add, Nat.mul_comm 4, Nat.mul_comm 12]) ?_
            refine go_iload dRef_unpack_169 rfl ?_
            refine go_iast dRef_unpack_171 hR.2.2.2.2.2.2.2.1 (by first | exact Gd.nar (by assumption) | exact vp_in_nI (by omega) (by omega) | exact nI_ne0 (by omega) (by omega)) (nI_clamp (by omega)) ?_
            refine go_iinc dRef_unpack_172 rfl (congrArg (_ + ·) lit1) ?_
            refine go_goto (tgt := 89) dRef_unpack_175 ?_
            refine go_nm (fun hnk4 enk4 => ?_)
            have gsk4 : Sm h hnk4 m 17 := by rw [enk4]; exact (Sm.put' (Sm.refl _ _ _) _ (by omega) (by omega))
            have hRk4 : RfA hnk4 m (g) (uA A 6 (upd f ((y * 12 + s / chN π.1.2.2.2) * 4 + s % chN π.1.2.2.2) (nI (vR π ρ y s)))) := ⟨(congrFun enk4 m).trans ((pmU_n _ _ (by omega)).trans hR.1), (congrFun enk4 (m + 1)).trans ((pmU_n _ _ (by omega)).trans hR.2.1), (congrFun enk4 (m + 2)).trans ((pmU_n _ _ (by omega)).trans hR.2.2.1), (congrFun enk4 (m + 3)).trans ((pmU_n _ _ (by omega)).trans hR.2.2.2.1), (congrFun enk4 (m + 4)).trans ((pmU_n _ _ (by omega)).trans hR.2.2.2.2.1), (congrFun enk4 (m + 5)).trans ((pmU_n _ _ (by omega)).trans hR.2.2.2.2.2.1), (congrFun enk4 (m + 6)).trans ((pmU_n _ _ (by omega)).trans hR.2.2.2.2.2.2.1), (congrFun enk4 (m + 7)).trans (pmU_s _ _ _), (congrFun enk4 (m + 8)).trans ((pmU_n _ _ (by omega)).trans hR.2.2.2.2.2.2.2.2.1), (congrFun enk4 (m + 9)).trans ((pmU_n _ _ (by omega)).trans hR.2.2.2.2.2.2.2.2.2.1), (congrFun enk4 (m + 10)).trans ((pmU_n _ _ (by omega)).trans hR.2.2.2.2.2.2.2.2.2.2.1), (congrFun enk4 (m + 11)).trans ((pmU_n _ _ (by omega)).trans hR.2.2.2.2.2.2.2.2.2.2.2.1), (congrFun enk4 (m + 12)).trans ((pmU_n _ _ (by omega)).trans hR.2.2.2.2.2.2.2.2.2.2.2.2.1), (congrFun enk4 (m + 13)).trans ((pmU_n _ _ (by omega)).trans hR.2.2.2.2.2.2.2.2.2.2.2.2.2.1), (congrFun enk4 (m + 14)).trans ((pmU_n _ _ (by omega)).trans hR.2.2.2.2.2.2.2.2.2.2.2.2.2.2.1), (congrFun enk4 (m + 15)).trans ((pmU_n _ _ (by omega)).trans hR.2.2.2.2.2.2.2.2.2.2.2.2.2.2.2.1), (congrFun enk4 (m + 16)).trans ((pmU_n _ _ (by omega)).trans hR.2.2.2.2.2.2.2.2.2.2.2.2.2.2.2.2)⟩
            have sk4 := hs.trans gsk4
            refine go_fg 7 ?_
            exact go_at (ih (s + 1) 1 _ _ _ (by omega) hRk4 (Or.inl ⟨rfl, (hg.yes c2).1, allS1 (hg.yes c2).2 (Or.inr (Int32.not_le.mp c4))⟩) (hS.step hwh.1 (by omega)) sk4 hk) rfl (by rw [nI_succ s]; rfl) rfl rfl
set_option maxHeartbeats 4000000 in
theorem l_Ref_unpEnd {E : pmEv} {h0 h : pmH} {z : Option Nat} {d : Bool} {m : Nat} {g : Nat → Int32} {A : Nat → Nat → Int32} {π : aPic} {ρ : aRow} {y : Nat} {gd2 : Int32} {f2 : Nat → Int32} (hd : g 15 = nI π.1.1 ∧ g 16 = nI π.1.2.1 ∧ g 17 = nI π.1.2.2.1 ∧ g 18 = nI π.1.2.2.2) (h20 : g 20 = nI π.2.2.1.2) (hc64 : π.2.2.1.2 ≤ 64) (ho : okN π.1) (hN : ρ.2 ≤ 2000) (hA14 : Ag ρ.2 (A 14) ρ.1) (hB : AllB ρ) (hc : ρ.2 = rlN π.1 * π.1.2.1) (hy : y < π.1.2.1) (hR : RfA h m g (uA A 6 f2)) (hg2 : Gd gd2 (((∀ y', y' < y → rowP π ρ y') ∧ ρ.1 (rlN π.1 * y) = 0) ∧ ∀ s', s' < π.1.1 * chN π.1.2.2.2 → kK π ρ y s')) (hS2 : SamI π ρ f2 y (π.1.1 * chN π.1.2.2.2)) (hs : Sm h0 h m 17) (hk : (∀ hx dx gd' f', RfA hx m g (uA A 6 f') → Gd gd' (∀ y', y' < y + 1 → rowP π ρ y') → SamI π ρ f' (y + 1) 0 → Sm h0 hx m 17 → Go E (mRef_unpack, h0, 0, 0) 44 [some (.ref m), some (.int (nI (rlN π.1))), some (.int (nI (chN π.1.2.2.2))), some (.int (gd')), some (.int (nI (y + 1))), none, none, none] [] (hx, z, dx) 0 0 (RetX (some (.int (bI (enO π ρ)))) (fun h' => ∃ f, RfA h' m g (uA A 6 f) ∧ (enO π ρ → SaR f (upS π ρ) π.1) ∧ Sm h0 h' m 17) z))) : Go E (mRef_unpack, h0, 0, 0) 178 [some (.ref m), some (.int (nI (rlN π.1))), some (.int (nI (chN π.1.2.2.2))), some (.int (gd2)), some (.int (nI (y))), some (.int (nI (8 * (rlN π.1 * y + 1) + (π.1.1 * chN π.1.2.2.2) * π.1.2.2.1))), some (.int (nI (π.1.1 * chN π.1.2.2.2))), none] [] (h, z, d) 0 0 (RetX (some (.int (bI (enO π ρ)))) (fun h' => ∃ f, RfA h' m g (uA A 6 f) ∧ (enO π ρ → SaR f (upS π ρ) π.1) ∧ Sm h0 h' m 17) z) := by
  have hb := ho.b
  have hwh := ho.w
  have hkk := ho.k
  have hch := chN_le π.1.2.2.2
  have h588 := rlH_le ho
  have hrl := rl_ge π.1
  have hrb : rbN π.1 = π.1.1 * chN π.1.2.2.2 * π.1.2.2.1 := rfl
  have hrb2 := rbN_le ho
  have hwc : π.1.1 * chN π.1.2.2.2 ≤ 12 * 4 := Nat.mul_le_mul hwh.1 hch.2
  have hm := Nat.mul_le_mul_left (rlN π.1) (show y + 1 ≤ π.1.2.1 from hy)
  rw [Nat.mul_succ] at hm
  have e8 : 8 * rlN π.1 * (y + 1) = 8 * (rlN π.1 * y) + 8 * rlN π.1 := by rw [Nat.mul_succ, Nat.mul_assoc]
  refine go_iload_n dRef_unpack_178 rfl ?_
  refine go_if_eq (tgt := 207) dRef_unpack_179 (fun c1 => ?_) (fun c1 => ?_)
  · refine go_iconst (v := 0) dRef_unpack_207 (by decide) ?_
    refine go_istore_n dRef_unpack_208 ?_
    refine go_iinc dRef_unpack_209 rfl (congrArg (_ + ·) lit1) ?_
    refine go_goto (tgt := 44) dRef_unpack_212 ?_
    refine go_fg 5 (go_fg 6 ?_)
    exact go_at (hk h d 0 f2 hR (Gd.no hg2 c1 (fun q => ⟨⟨fun y1 h1 => q y1 (by omega), (q y (by omega)).1.1⟩, (q y (by omega)).1.2⟩)) hS2.row hs) rfl (by rw [nI_succ y]; rfl) rfl rfl
  · refine go_aload_n dRef_unpack_182 rfl ?_
    refine go_iload dRef_unpack_183 rfl ?_
    refine go_bipush (v := 8) dRef_unpack_185 (by decide) ?_
    refine go_iload_n dRef_unpack_187 rfl ?_
    refine go_imul dRef_unpack_188 ?_
    refine go_top (y := nI (8 * rlN π.1)) (by rw [show (8 : Int32) = nI 8 from rfl, pk_mul]) ?_
    refine go_iload dRef_unpack_189 rfl ?_
    refine go_iconst (v := 1) dRef_unpack_191 (by decide) ?_
    refine go_iadd dRef_unpack_192 ?_
    refine go_top (y := nI (y + 1)) (by rw [show (1 : Int32) = nI 1 from rfl, nI_add]) ?_
    refine go_imul dRef_unpack_193 ?_
    refine go_top (y := nI (8 * rlN π.1 * (y + 1))) (by rw [pk_mul]) ?_
    refine go_iload dRef_unpack_194 rfl ?_
    refine go_isub dRef_unpack_196 ?_
    refine go_top (y := nI (8 * rlN π.1 * (y + 1) - (8 * (rlN π.1 * y + 1) + rbN π.1))) (by rw [pk_sub (by omega)]; rfl) ?_
    refine go_virtP dRef_unpack_197 ok_mRef_rowBits im_mRef_rowBits se_mRef_rowBits qm_Ref_271 hR.1 (r_rowBits (g := g) (A := uA A 6 f2) (ρ := ρ) (s0 := 8 * (rlN π.1 * y + 1) + rbN π.1) (k := 8 * rlN π.1 * (y + 1) - (8 * (rlN π.1 * y + 1) + rbN π.1)) (by omega) hN hA14 hB hR) ?_ (hnp := np_mRef_rowBits)
    refine go_if_ne (tgt := 207) dRef_unpack_200 (fun c2 => ?_) (fun c2 => ?_)
    · refine go_iconst (v := 0) dRef_unpack_207 (by decide) ?_
      refine go_istore_n dRef_unpack_208 ?_
      refine go_iinc dRef_unpack_209 rfl (congrArg (_ + ·) lit1) ?_
      refine go_goto (tgt := 44) dRef_unpack_212 ?_
      refine go_fg 5 (go_fg 6 ?_)
      exact go_at (hk h d 0 f2 hR (Or.inr ⟨rfl, fun q => c2 (congrArg nI (q y (by omega)).2)⟩) hS2.row hs) rfl (by rw [nI_succ y]; rfl) rfl rfl
    · refine go_iconst (v := 1) dRef_unpack_203 (by decide) ?_
      refine go_goto (tgt := 208) dRef_unpack_204 ?_
      refine go_istore_n dRef_unpack_208 ?_
      refine go_iinc dRef_unpack_209 rfl (congrArg (_ + ·) lit1) ?_
      refine go_goto (tgt := 44) dRef_unpack_212 ?_
      refine go_fg 5 (go_fg 6 ?_)
      exact go_at (hk h d 1 f2 hR (Or.inl ⟨rfl, allS1 (hg2.yes c1).1.1 ⟨⟨(hg2.yes c1).1.2, (hg2.yes c1).2⟩, (nI_inj (b := 0) (by have := pad_lt (ρ := ρ) (y := y) ho; omega) (by omega)).mp c2⟩⟩) hS2.row hs) rfl (by rw [nI_succ y]; rfl) rfl rfl
set_option maxHeartbeats 4000000 in
theorem l_Ref_unpRow {E : pmEv} {h0 h : pmH} {z : Option Nat} {d : Bool} {m : Nat} {g : Nat → Int32} {A : Nat → Nat → Int32} {π : aPic} {ρ : aRow} {y : Nat} {gd : Int32} {f : Nat → Int32} (hd : g 15 = nI π.1.1 ∧ g 16 = nI π.1.2.1 ∧ g 17 = nI π.1.2.2.1 ∧ g 18 = nI π.1.2.2.2) (h20 : g 20 = nI π.2.2.1.2) (hc64 : π.2.2.1.2 ≤ 64) (ho : okN π.1) (hN : ρ.2 ≤ 2000) (hA14 : Ag ρ.2 (A 14) ρ.1) (hB : AllB ρ) (hc : ρ.2 = rlN π.1 * π.1.2.1) (hy : y < π.1.2.1) (hR : RfA h m g (uA A 6 f)) (hg : Gd gd ((∀ y', y' < y → rowP π ρ y') ∧ ρ.1 (rlN π.1 * y) = 0)) (hS : SamI π ρ f y 0) (hs : Sm h0 h m 17) (hk : (∀ hx dx gd' f', RfA hx m g (uA A 6 f') → Gd gd' (∀ y', y' < y + 1 → rowP π ρ y') → SamI π ρ f' (y + 1) 0 → Sm h0 hx m 17 → Go E (mRef_unpack, h0, 0, 0) 44 [some (.ref m), some (.int (nI (rlN π.1))), some (.int (nI (chN π.1.2.2.2))), some (.int (gd')), some (.int (nI (y + 1))), none, none, none] [] (hx, z, dx) 0 0 (RetX (some (.int (bI (enO π ρ)))) (fun h' => ∃ f, RfA h' m g (uA A 6 f) ∧ (enO π ρ → SaR f (upS π ρ) π.1) ∧ Sm h0 h' m 17) z))) : Go E (mRef_unpack, h0, 0, 0) 75 [some (.ref m), some (.int (nI (rlN π.1))), some (.int (nI (chN π.1.2.2.2))), some (.int (gd)), some (.int (nI (y))), none, none, none] [] (h, z, d) 0 0 (RetX (some (.int (bI (enO π ρ)))) (fun h' => ∃ f, RfA h' m g (uA A 6 f) ∧ (enO π ρ → SaR f (upS π ρ) π.1) ∧ Sm h0 h' m 17) z) := by
  refine go_bipush (v := 8) dRef_unpack_75 (by decide) ?_
  refine go_iload_n dRef_unpack_77 rfl ?_
  refine go_iload dRef_unpack_78 rfl ?_
  refine go_imul dRef_unpack_80 ?_
  refine go_iconst (v := 1) dRef_unpack_81 (by decide) ?_
  refine go_iadd dRef_unpack_82 ?_
  refine go_imul dRef_unpack_83 ?_
  refine go_top (y := nI (8 * (rlN π.1 * y + 1) + 0 * π.1.2.2.1)) (by rw [pk_mul, show (8 : Int32) = nI 8 from rfl, show (1 : Int32) = nI 1 from rfl, nI_add, pk_mul, Nat.zero_mul]; rfl) ?_
  refine go_istore dRef_unpack_84 ?_
  refine go_iconst (v := 0) dRef_unpack_86 (by decide) ?_
  refine go_istore dRef_unpack_87 ?_
  exact go_at (l_Ref_unpIn (P1 := (∀ y', y' < y → rowP π ρ y') ∧ ρ.1 (rlN π.1 * y) = 0) hd h20 hc64 ho hN hA14 hB hc hy (π.1.1 * chN π.1.2.2.2) 0 gd f h d (by omega) hR (hg.elim (fun q => Or.inl ⟨q.1, q.2, fun k hk => absurd hk (by omega)⟩) (fun q => Or.inr ⟨q.1, fun x => q.2 x.1⟩)) hS hs (fun hx2 dx2 gd2 f2 hR2 hg2 hS2 hs2 => l_Ref_unpEnd hd h20 hc64 ho hN hA14 hB hc hy hR2 hg2 hS2 hs2 hk)) rfl rfl rfl rfl
set_option maxHeartbeats 4000000 in
theorem l_Ref_unp {E : pmEv} {h0 : pmH} {z : Option Nat} {m : Nat} {g : Nat → Int32} {A : Nat → Nat → Int32} {π : aPic} {ρ : aRow} (hd : g 15 = nI π.1.1 ∧ g 16 = nI π.1.2.1 ∧ g 17 = nI π.1.2.2.1 ∧ g 18 = nI π.1.2.2.2) (h20 : g 20 = nI π.2.2.1.2) (hc64 : π.2.2.1.2 ≤ 64) (ho : okN π.1) (hN : ρ.2 ≤ 2000) (hA14 : Ag ρ.2 (A 14) ρ.1) (hB : AllB ρ) (hc : ρ.2 = rlN π.1 * π.1.2.1) : ∀ (n : Nat) (y : Nat) (gd : Int32) (f : Nat → Int32) (h : pmH) (d : Bool), y + n = π.1.2.1 → RfA h m g (uA A 6 f) → Gd gd (∀ y', y' < y → rowP π ρ y') → SamI π ρ f y 0 → Sm h0 h m 17 → Go E (mRef_unpack, h0, 0, 0) 44 [some (.ref m), some (.int (nI (rlN π.1))), some (.int (nI (chN π.1.2.2.2))), some (.int (gd)), some (.int (nI (y))), none, none, none] [] (h, z, d) 0 0 (RetX (some (.int (bI (enO π ρ)))) (fun h' => ∃ f, RfA h' m g (uA A 6 f) ∧ (enO π ρ → SaR f (upS π ρ) π.1) ∧ Sm h0 h' m 17) z) := by
  intro n
  induction n with
  | zero =>
    intro y gd f h d hy_ hR hg hS hs
    have hb := ho.b
    have hwh := ho.w
    have hkk := ho.k
    have hch := chN_le π.1.2.2.2
    have h588 := rlH_le ho
    have hrl := rl_ge π.1
    have hrb : rbN π.1 = π.1.1 * chN π.1.2.2.2 * π.1.2.2.1 := rfl
    have hrb2 := rbN_le ho
    have hwc : π.1.1 * chN π.1.2.2.2 ≤ 12 * 4 := Nat.mul_le_mul hwh.1 hch.2
    refine go_iload dRef_unpack_44 rfl ?_
    refine go_aload_n dRef_unpack_46 rfl ?_
    refine go_getf dRef_unpack_47 qf_Ref_236 hR.1 rfl ?_
    refine go_top (y := nI π.1.2.1) (by exact hd.2.1) ?_
    refine go_icmp_ge (tgt := 215) dRef_unpack_50 (fun c1 => ?_) (fun c1 => ?_)
    · refine go_iload_n dRef_unpack_215 rfl ?_
      refine go_iret dRef_unpack_216 rfl (by first | exact Gd.nar (by assumption) | exact vp_in_nI (by omega) (by omega) | exact nI_ne0 (by omega) (by omega)) ?_ (Nat.le_of_ble_eq_true rfl) (Nat.le_of_ble_eq_true rfl)
      obtain rfl : y = π.1.2.1 := by omega
      exact retX_e (congrArg (fun v => some (Value.int v)) (hg.bI ⟨fun q => ⟨hc, fun y hy => (up_iff ho hB hc hy).mp (q y hy)⟩, fun q y hy => (up_iff ho hB hc hy).mpr (q.2 y hy)⟩)) ⟨f, hR, fun _ => hS.sa ho hB hc, hs⟩
    · exact absurd (nI_le (a := π.1.2.1) (b := y) (by omega) (by omega)) c1
  | succ n ih =>
    intro y gd f h d hy_ hR hg hS hs
    have hb := ho.b
    have hwh := ho.w
    have hkk := ho.k
    have hch := chN_le π.1.2.2.2
    have h588 := rlH_le ho
    have hrl := rl_ge π.1
    have hrb : rbN π.1 = π.1.1 * chN π.1.2.2.2 * π.1.2.2.1 := rfl
    have hrb2 := rbN_le ho
    have hwc : π.1.1 * chN π.1.2.2.2 ≤ 12 * 4 := Nat.mul_le_mul hwh.1 hch.2
    refine go_iload dRef_unpack_44 rfl ?_
    refine go_aload_n dRef_unpack_46 rfl ?_
    refine go_getf dRef_unpack_47 qf_Ref_236 hR.1 rfl ?_
    refine go_top (y := nI π.1.2.1) (by exact hd.2.1) ?_
    refine go_icmp_ge (tgt := 215) dRef_unpack_50 (fun c1 => ?_) (fun c1 => ?_)
    · exact absurd c1 (nI_ge (a := y) (b := π.1.2.1) (by omega) (by omega))
    · have hy : y < π.1.2.1 := by omega
      have hm := Nat.mul_le_mul_left (rlN π.1) (show y + 1 ≤ π.1.2.1 from hy)
      rw [Nat.mul_succ] at hm
      refine go_iload_n dRef_unpack_53 rfl ?_
      refine go_if_eq (tgt := 73) dRef_unpack_54 (fun c2 => ?_) (fun c2 => ?_)
      · refine go_iconst (v := 0) dRef_unpack_73 (by decide) ?_
        refine go_istore_n dRef_unpack_74 ?_
        exact go_at (l_Ref_unpRow hd h20 hc64 ho hN hA14 hB hc hy hR (Gd.no hg c2 (fun q => q.1)) hS hs (fun hx2 dx2 gd2 f2 hR2 hg2 hS2 hs2 => ih (y + 1) gd2 f2 hx2 dx2 (by omega) hR2 hg2 hS2 hs2)) rfl rfl rfl rfl
      · refine go_aload_n dRef_unpack_57 rfl ?_
        refine go_getf dRef_unpack_58 qf_Ref_52 hR.1 rfl ?_
        refine go_iload_n dRef_unpack_61 rfl ?_
        refine go_iload dRef_unpack_62 rfl ?_
        refine go_imul dRef_unpack_64 ?_
        refine go_top (y := nI (rlN π.1 * y)) (by exact pk_mul _ _) ?_
        refine go_iald dRef_unpack_65 hR.2.2.2.2.2.2.2.2.2.2.2.2.2.2.2.1 (by first | exact Gd.nar (by assumption) | exact vp_in_nI (by omega) (by omega) | exact nI_ne0 (by omega) (by omega)) (congrArg _ (nI_clamp (by omega))) ?_
        refine go_top (y := ρ.1 (rlN π.1 * y)) (by exact hA14 _ (by omega)) ?_
        refine go_if_ne (tgt := 73) dRef_unpack_66 (fun c3 => ?_) (fun c3 => ?_)
        · refine go_iconst (v := 0) dRef_unpack_73 (by decide) ?_
          refine go_istore_n dRef_unpack_74 ?_
          exact go_at (l_Ref_unpRow hd h20 hc64 ho hN hA14 hB hc hy hR (Or.inr ⟨rfl, fun q => c3 q.2⟩) hS hs (fun hx2 dx2 gd2 f2 hR2 hg2 hS2 hs2 => ih (y + 1) gd2 f2 hx2 dx2 (by omega) hR2 hg2 hS2 hs2)) rfl rfl rfl rfl
        · refine go_iconst (v := 1) dRef_unpack_69 (by decide) ?_
          refine go_goto (tgt := 74) dRef_unpack_70 ?_
          refine go_istore_n dRef_unpack_74 ?_
          exact go_at (l_Ref_unpRow hd h20 hc64 ho hN hA14 hB hc hy hR (Or.inl ⟨rfl, hg.yes c2, c3⟩) hS hs (fun hx2 dx2 gd2 f2 hR2 hg2 hS2 hs2 => ih (y + 1) gd2 f2 hx2 dx2 (by omega) hR2 hg2 hS2 hs2)) rfl rfl rfl rfl
set_option maxHeartbeats 4000000 in
theorem r_unpack {E : pmEv} {h : pmH} {z : Option Nat} {m : Nat} {g : Nat → Int32} {A : Nat → Nat → Int32} {π : aPic} {ρ : aRow} (hd : g 15 = nI π.1.1 ∧ g 16 = nI π.1.2.1 ∧ g 17 = nI π.1.2.2.1 ∧ g 18 = nI π.1.2.2.2) (h20 : g 20 = nI π.2.2.1.2) (hc64 : π.2.2.1.2 ≤ 64) (ho : okN π.1) (hN : ρ.2 ≤ 2000) (hA14 : Ag ρ.2 (A 14) ρ.1) (hB : AllB ρ) (h35 : g 35 = nI ρ.2) (hR : RfA h m g A) : Call E mRef_unpack [.ref m] h z 0 0 (RetX (some (.int (bI (enO π ρ)))) (fun h' => ∃ f, RfA h' m g (uA A 6 f) ∧ (enO π ρ → SaR f (upS π ρ) π.1) ∧ Sm h h' m 17) z) := by
  have hb := ho.b
  have hwh := ho.w
  have hkk := ho.k
  have hch := chN_le π.1.2.2.2
  have h588 := rlH_le ho
  have hrl := rl_ge π.1
  have hrb : rbN π.1 = π.1.1 * chN π.1.2.2.2 * π.1.2.2.1 := rfl
  have hrb2 := rbN_le ho
  have hwc : π.1.1 * chN π.1.2.2.2 ≤ 12 * 4 := Nat.mul_le_mul hwh.1 hch.2
  refine call_of (L := [some (.ref m), none, none, none, none, none, none, none]) ok_mRef_unpack (Nat.le_of_ble_eq_true rfl) ?_
  refine go_aload_n dRef_unpack_0 rfl ?_
  refine go_getf dRef_unpack_1 qf_Ref_233 hR.1 rfl ?_
  refine go_top (y := nI π.1.1) (by exact hd.1) ?_
  refine go_aload_n dRef_unpack_4 rfl ?_
  refine go_getf dRef_unpack_5 qf_Ref_224 hR.1 rfl ?_
  refine go_top (y := nI π.1.2.2.2) (by exact hd.2.2.2) ?_
  refine go_aload_n dRef_unpack_8 rfl ?_
  refine go_getf dRef_unpack_9 qf_Ref_239 hR.1 rfl ?_
  refine go_top (y := nI π.1.2.2.1) (by exact hd.2.2.1) ?_
  refine go_statP dRef_unpack_12 ok_mRef_bytesInRow st_mRef_bytesInRow qm_Ref_174 (r_bytesInRow (d := π.1) ho) ?_ (hnp := np_mRef_bytesInRow)
  refine go_istore_n dRef_unpack_15 ?_
  refine go_aload_n dRef_unpack_16 rfl ?_
  refine go_getf dRef_unpack_17 qf_Ref_245 hR.1 rfl ?_
  refine go_top (y := nI ρ.2) (by exact h35) ?_
  refine go_iload_n dRef_unpack_20 rfl ?_
  refine go_aload_n dRef_unpack_21 rfl ?_
  refine go_getf dRef_unpack_22 qf_Ref_236 hR.1 rfl ?_
  refine go_top (y := nI π.1.2.1) (by exact hd.2.1) ?_
  refine go_imul dRef_unpack_25 ?_
  refine go_top (y := nI (rlN π.1 * π.1.2.1)) (by exact pk_mul _ _) ?_
  refine go_icmp_eq (tgt := 31) dRef_unpack_26 (fun c1 => ?_) (fun c1 => ?_)
  · refine go_aload_n dRef_unpack_31 rfl ?_
    refine go_getf dRef_unpack_32 qf_Ref_224 hR.1 rfl ?_
    refine go_top (y := nI π.1.2.2.2) (by exact hd.2.2.2) ?_
    refine go_statP dRef_unpack_35 ok_mRef_channelsOf st_mRef_channelsOf qm_Ref_100 r_channelsOf ?_ (hnp := np_mRef_channelsOf)
    rw [chOf_n hkk]
    refine go_istore_n dRef_unpack_38 ?_
    refine go_iconst (v := 1) dRef_unpack_39 (by decide) ?_
    refine go_istore_n dRef_unpack_40 ?_
    refine go_iconst (v := 0) dRef_unpack_41 (by decide) ?_
    refine go_istore dRef_unpack_42 ?_
    exact l_Ref_unp hd h20 hc64 ho hN hA14 hB ((nI_inj (by omega) (by omega)).mp c1) (π.1.2.1) 0 1 (A 6) h false (by omega) hR (Or.inl ⟨rfl, fun y hy => absurd hy (by omega)⟩) SamI.zero (Sm.refl _ _ _)
  · refine go_iconst (v := 0) dRef_unpack_29 (by decide) ?_
    refine go_iret dRef_unpack_30 rfl rfl ?_ (Nat.le_of_ble_eq_true rfl) (Nat.le_of_ble_eq_true rfl)
    exact retX_e (congrArg (fun v => some (Value.int v)) (bI_f (fun q => c1 (congrArg nI q.1))).symm) ⟨A 6, hR, fun q => absurd (congrArg nI q.1) c1, Sm.refl _ _ _⟩
