/-! ===== the reference: its state, its own methods (by wip/whole/gen_rOwn.py) ===== -/
def uA (A : Nat → Nat → Int32) (j : Nat) (f : Nat → Int32) : Nat → Nat → Int32 := fun i => if i = j then f else A i
def RfA (h : pmH) (m : Nat) (g : Nat → Int32) (A : Nat → Nat → Int32) : Prop := h m = some (pmO 8 [.int (g 0), .int (g 1), .int (g 2), .int (g 3), .int (g 4), .int (g 5), .ref (m + 1), .int (g 7), .ref (m + 2), .ref (m + 3), .int (g 10), .ref (m + 4), .ref (m + 5), .ref (m + 6), .int (g 14), .int (g 15), .int (g 16), .int (g 17), .int (g 18), .ref (m + 7), .int (g 20), .ref (m + 8), .ref (m + 9), .int (g 23), .ref (m + 10), .ref (m + 11), .ref (m + 12), .int (g 27), .int (g 28), .ref (m + 13), .int (g 30), .ref (m + 14), .int (g 32), .int (g 33), .ref (m + 15), .int (g 35), .int (g 36), .int (g 37), .int (g 38), .int (g 39), .int (g 40), .ref (m + 16)]) ∧ h (m + 1) = some (pmI 576 (A 0)) ∧ h (m + 2) = some (pmI 256 (A 1)) ∧ h (m + 3) = some (pmI 3 (A 2)) ∧ h (m + 4) = some (pmI 6 (A 3)) ∧ h (m + 5) = some (pmI 6 (A 4)) ∧ h (m + 6) = some (pmI 240 (A 5)) ∧ h (m + 7) = some (pmI 576 (A 6)) ∧ h (m + 8) = some (pmI 256 (A 7)) ∧ h (m + 9) = some (pmI 3 (A 8)) ∧ h (m + 10) = some (pmI 6 (A 9)) ∧ h (m + 11) = some (pmI 6 (A 10)) ∧ h (m + 12) = some (pmI 240 (A 11)) ∧ h (m + 13) = some (pmI 2000 (A 12)) ∧ h (m + 14) = some (pmI 2000 (A 13)) ∧ h (m + 15) = some (pmI 2000 (A 14)) ∧ h (m + 16) = some (pmB 3 (A 15))
theorem RfA.sm {h h' : pmH} {m a n : Nat} {g : Nat → Int32} {A : Nat → Nat → Int32} (hR : RfA h m g A) (hs : Sm h h' a n) (hd : m + 17 ≤ a ∨ a + n ≤ m) : RfA h' m g A := ⟨(hs _ (by omega)).trans hR.1, (hs _ (by omega)).trans hR.2.1, (hs _ (by omega)).trans hR.2.2.1, (hs _ (by omega)).trans hR.2.2.2.1, (hs _ (by omega)).trans hR.2.2.2.2.1, (hs _ (by omega)).trans hR.2.2.2.2.2.1, (hs _ (by omega)).trans hR.2.2.2.2.2.2.1, (hs _ (by omega)).trans hR.2.2.2.2.2.2.2.1, (hs _ (by omega)).trans hR.2.2.2.2.2.2.2.2.1, (hs _ (by omega)).trans hR.2.2.2.2.2.2.2.2.2.1, (hs _ (by omega)).trans hR.2.2.2.2.2.2.2.2.2.2.1, (hs _ (by omega)).trans hR.2.2.2.2.2.2.2.2.2.2.2.1, (hs _ (by omega)).trans hR.2.2.2.2.2.2.2.2.2.2.2.2.1, (hs _ (by omega)).trans hR.2.2.2.2.2.2.2.2.2.2.2.2.2.1, (hs _ (by omega)).trans hR.2.2.2.2.2.2.2.2.2.2.2.2.2.2.1, (hs _ (by omega)).trans hR.2.2.2.2.2.2.2.2.2.2.2.2.2.2.2.1, (hs _ (by omega)).trans hR.2.2.2.2.2.2.2.2.2.2.2.2.2.2.2.2⟩
def SaR (f s : Nat → Int32) (d : Nat × Nat × Nat × Nat) : Prop := ∀ x, x < d.1 → ∀ y, y < d.2.1 → ∀ u, u < chN d.2.2.2 → f ((y * 12 + x) * 4 + u) = s ((y * 12 + x) * 4 + u)
def RO (g : Nat → Int32) (A : Nat → Nat → Int32) (t : Bool) (π : aPic) : Prop := g 1 = bI (t = true) ∧ (t = true → (g 2 = nI π.1.1 ∧ g 3 = nI π.1.2.1 ∧ g 4 = nI π.1.2.2.1 ∧ g 5 = nI π.1.2.2.2) ∧ SaR (A 0) π.2.1 π.1 ∧ Ag 3 (A 2) π.2.2.2.1) ∧ (g 7 = nI π.2.2.1.2 ∧ Ag (4 * π.2.2.1.2) (A 1) π.2.2.1.1) ∧ (g 10 = nI π.2.2.2.2.2.2.2 ∧ eAr π.2.2.2.2 (A 3) (A 4) (A 5))
def RW (g : Nat → Int32) (A : Nat → Nat → Int32) (w : aRow) : Prop := g 30 = nI w.2 ∧ Ag w.2 (A 12) w.1
def RF (g : Nat → Int32) (A : Nat → Nat → Int32) (p : aRow) : Prop := g 32 = nI p.2 ∧ Ag p.2 (A 13) p.1
def RP (g : Nat → Int32) (A : Nat → Nat → Int32) (π : aPic) : Prop := (g 15 = nI π.1.1 ∧ g 16 = nI π.1.2.1 ∧ g 17 = nI π.1.2.2.1 ∧ g 18 = nI π.1.2.2.2) ∧ SaR (A 6) π.2.1 π.1 ∧ Ag 3 (A 8) π.2.2.2.1 ∧ (g 20 = nI π.2.2.1.2 ∧ Ag (4 * π.2.2.1.2) (A 7) π.2.2.1.1) ∧ (g 23 = nI π.2.2.2.2.2.2.2 ∧ eAr π.2.2.2.2 (A 9) (A 10) (A 11))
def RS (g : Nat → Int32) (A : Nat → Nat → Int32) (S : aRs) : Prop := g 28 = S.2.2 1 ∧ g 14 = bI (¬ S.2.2 0 = 0) ∧ (¬ S.2.2 0 = 0 → RP g A S.1.2 ∧ g 27 = S.2.2 4)
def RR (g : Nat → Int32) (A : Nat → Nat → Int32) (α : aPF) : Prop := RO g A α.1.1 α.1.2 ∧ RW g A α.2.1 ∧ RF g A α.2.2.1 ∧ RS g A α.2.2.2
def smJ (π : aPic) (v : Int32) : Prop := 0 ≤ v ∧ v ≤ gr (nI π.1.2.2.1) ∧ (¬ nI π.1.2.2.2 = 3 ∨ v = 0 ∨ v < nI π.2.2.1.2)
/-- a picture that may be: sizes, samples, entries, letters, bytes -/
def IvP (π : aPic) : Prop := okN π.1 ∧ (π.2.2.1.2 ≤ 64 ∧ (π.1.2.2.2 = 3 → π.2.2.1.2 ≤ min 64 (2 ^ π.1.2.2.1)) ∧ ∀ j, j < 4 * π.2.2.1.2 → byt (π.2.2.1.1 j)) ∧ (π.2.2.2.2.2.2.2 ≤ 6 ∧ (∀ k, k < π.2.2.2.2.2.2.2 → exOk (π.2.2.2.2.1 k) ∧ ∀ i, i < π.2.2.2.2.2.1 k → byt (π.2.2.2.2.2.2.1 (40 * k + i)))) ∧ (∀ x, x < π.1.1 → ∀ y, y < π.1.2.1 → ∀ u, u < chN π.1.2.2.2 → smJ π (π.2.1 ((y * 12 + x) * 4 + u))) ∧ (π.2.2.2.1 1 = -1 ∨ byt (π.2.2.2.1 1))
def IvA (α : aPF) : Prop := IvP α.1.2 ∧ (α.2.1.2 ≤ 1115 ∧ ∀ j, j < α.2.1.2 → byt (α.2.1.1 j)) ∧ (α.2.2.1.2 ≤ 2000 ∧ ∀ j, j < α.2.2.1.2 → byt (α.2.2.1.1 j)) ∧ (¬ α.2.2.2.2.2 0 = 0 → IvP α.2.2.2.1.2 ∧ α.2.2.2.1.1 = true)
def rvO (r : Option Value) (o : pmA) : Option Value := match o with
  | .inl v => v
  | .inr _ => r
def rcN (f : List Nat) (o : pmA) : Nat := match o with
  | .inl _ => 0
  | .inr x => f.getD x 0
def RetR (m : Nat) (h : pmH) (f : List Nat) (r : Option Value) (sp : pmA × aPF) : pmA → pmS → Prop := fun o S => o = .inl (rvO r sp.1) ∧ (∃ g A, RfA S.1 m g A ∧ RR g A sp.2 ∧ g 0 = nI (rcN f sp.1)) ∧ Sm h S.1 m 17 ∧ S.2.1 = none
theorem retR_ok {m : Nat} {h h' : pmH} {f : List Nat} {r v : Option Value} {sp : pmA × aPF} {β : aPF} {g : Nat → Int32} {A : Nat → Nat → Int32} {d : Bool} (e : sp = (.inl v, β)) (hR : RfA h' m g A) (hr : RR g A β) (h0 : g 0 = 0) (hs : Sm h h' m 17) : RetR m h f r sp (.inl v) (h', none, d) := by
  subst e
  exact ⟨rfl, ⟨g, A, hR, hr, h0⟩, hs, rfl⟩
theorem retR_no {m x : Nat} {h h' : pmH} {f : List Nat} {r : Option Value} {sp : pmA × aPF} {β : aPF} {g : Nat → Int32} {A : Nat → Nat → Int32} {d : Bool} (e : sp = (.inr x, β)) (hR : RfA h' m g A) (hr : RR g A β) (h0 : g 0 = nI (f.getD x 0)) (hs : Sm h h' m 17) : RetR m h f r sp (.inl r) (h', none, d) := by
  subst e
  exact ⟨rfl, ⟨g, A, hR, hr, h0⟩, hs, rfl⟩
theorem upS1 {f V : Nat → Int32} {i : Nat} (h : ∀ k, k < i → f k = V k) : ∀ k, k < i + 1 → upd f i (V i) k = V k := fun k hk => by
  by_cases e : k = i
  · subst e; exact pk_us
  · rw [pk_un e]; exact h k (by omega)
def cpI (fb fc : Nat → Int32) (k t i : Nat) : Prop := ∀ j, fc j = if 40 * t ≤ j ∧ j < 40 * t + i then fb (40 * k + (j - 40 * t)) else fb j
theorem cpI.zero {fb : Nat → Int32} {k t : Nat} : cpI fb fb k t 0 := fun j => by rw [if_neg (by omega)]
theorem cpI.all {fb fc : Nat → Int32} {k t : Nat} (h : cpI fb fc k t 40) (j : Nat) : fc j = va_cpy fb fb (40 * k) (40 * t) 40 j := h j
theorem cpS {fb fc : Nat → Int32} {k t i n : Nat} (h : cpI fb fc k t i) (ht : t ≤ k) (hi : i + (n + 1) = 40) : cpI fb (upd fc (40 * t + i) (fc (40 * k + i))) k t (i + 1) := fun j => by
  have e0 : fc (40 * k + i) = fb (40 * k + i) := by rw [h (40 * k + i), if_neg (by omega)]
  by_cases e : j = 40 * t + i
  · subst e
    rw [pk_us, if_pos (by omega), e0]
    congr 1
    omega
  · rw [pk_un e, h j]
    by_cases e2 : 40 * t ≤ j ∧ j < 40 * t + i
    · rw [if_pos e2, if_pos (by omega)]
    · rw [if_neg e2, if_neg (by omega)]
theorem eAr.cg {e : aExt} {fl fs fb fb' : Nat → Int32} (h : eAr e fl fs fb) (hb : ∀ j, fb' j = fb j) : eAr e fl fs fb' := ⟨h.1, h.2.1, fun k hk i hi => (hb _).trans (h.2.2 k hk i hi)⟩
theorem mv_ok {e : aExt} {k t n : Nat} (ht : t ≤ k) (hx : ∀ j, k ≤ j → j < k + (n + 1) → exOk (e.1 j)) : ∀ j, k + 1 ≤ j → j < k + 1 + n → exOk ((exMv e k t).1 j) := fun j h1 h2 => by
  show exOk (upd e.1 t (e.1 k) j)
  rw [pk_un (by omega)]
  exact hx j (by omega) (by omega)
theorem ltr_3 {x : Int32} (h : letsOk x) : x - x / 256 * 256 = ltr x 3 := by
  have e0 : (ltr x 0) = nI (x.toBitVec.toNat / 2 ^ 24 % 256) := by
    unfold ltr
    rw [pk_and _ (m := 255) 8 (by decide)]
    congr 2
    exact pk_ushr x (24 - 8 * 0) 24 (by decide)
  have e3 : (ltr x 3) = nI (x.toBitVec.toNat % 256) := by
    unfold ltr
    rw [pk_and _ (m := 255) 8 (by decide)]
    congr 2
  have hlt := x.toBitVec.isLt
  have hs : x.toBitVec.toNat < 2 ^ 31 := by
    have h0 := h.1
    rw [e0] at h0
    rcases h0 with ⟨-, h1⟩ | ⟨-, h1⟩
    · have := (nI_leI (b := 90) (by omega) (by omega)).mp h1
      omega
    · have := (nI_leI (b := 122) (by omega) (by omega)).mp h1
      omega
  have ex : x = nI x.toBitVec.toNat := by
    apply Int32.toBitVec_inj.mp
    apply BitVec.eq_of_toNat_eq
    exact (pk_tn hlt).symm
  rw [e3]
  conv => lhs; rw [ex]
  exact pk_rem (d := 256) hs (by omega) (by omega)
theorem gr_le {x : Int32} (h : exOk x) (c : x - x / 256 * 256 ≤ 90) : 65 ≤ ltr x 3 ∧ ltr x 3 ≤ 90 := by
  rw [ltr_3 h.1] at c
  rcases h.1.2.2.2 with q | q
  · exact q
  · exact absurd (Int32.le_trans q.1 c) (by decide)
theorem gr_gt {x : Int32} (h : exOk x) (c : ¬ x - x / 256 * 256 ≤ 90) : ¬ (65 ≤ ltr x 3 ∧ ltr x 3 ≤ 90) := fun q => c (by rw [ltr_3 h.1]; exact q.2)
theorem lt_3 {x : Int32} (h : ¬ 2 < x) : x < 3 := by
  rw [Int32.lt_iff_toInt_lt] at h ⊢
  have e1 : (2 : Int32).toInt = 2 := by decide
  have e2 : (3 : Int32).toInt = 3 := by decide
  omega
theorem lt_s3 {x : Int32} (h : 2 < x) : 3 ≤ x := by
  rw [Int32.lt_iff_toInt_lt] at h
  rw [Int32.le_iff_toInt_le]
  have e1 : (2 : Int32).toInt = 2 := by decide
  have e2 : (3 : Int32).toInt = 3 := by decide
  omega
theorem sh1_n {b : Nat} (h : b ≤ 8) : (1 : Int32) <<< (nI b &&& 31) = nI (2 ^ b) := by
  have q : ∀ b : Fin 9, (1 : Int32) <<< (nI b.1 &&& 31) = nI (2 ^ b.1) := by decide
  exact q ⟨b, by omega⟩
theorem le_gr {b : Nat} {v : Int32} (h : b ≤ 8) : v ≤ gr (nI b) ↔ ¬ nI (2 ^ b) ≤ v := by
  have q : ∀ b : Fin 9, (gr (nI b.1)).toInt + 1 = (nI (2 ^ b.1)).toInt := by decide
  have e := q ⟨b, by omega⟩
  rw [Int32.le_iff_toInt_le, Int32.le_iff_toInt_le]
  simp only at e
  omega
theorem SaR_same {f s : Nat → Int32} {d : Nat × Nat × Nat × Nat} {x5 y5 u5 : Nat} {v : Int32} (h : SaR f s d) (hx : x5 < d.1) (hy : y5 < d.2.1) (hu : u5 < chN d.2.2.2) (e : f ((y5 * 12 + x5) * 4 + u5) = v) : SaR (upd f ((y5 * 12 + x5) * 4 + u5) v) s d := fun x h1 y h2 u h3 => by
  by_cases q : (y * 12 + x) * 4 + u = (y5 * 12 + x5) * 4 + u5
  · rw [q, pk_us, ← e]; rw [← q]; exact h x h1 y h2 u h3
  · rw [pk_un q]; exact h x h1 y h2 u h3
theorem RR.tag {g : Nat → Int32} {A : Nat → Nat → Int32} {α : aPF} {k : Nat} {v c : Int32} (ht : α.1.1 = true) (hr : RR g A α) (hk : k < 3) : RR (upd g 0 c) (uA A 2 (upd (A 2) k v)) ((α.1.1, tgS α.1.2 k v), α.2) := ⟨⟨hr.1.1, fun t => ⟨(hr.1.2.1 t).1, (hr.1.2.1 t).2.1, (hr.1.2.1 t).2.2.up k v⟩, hr.1.2.2⟩, hr.2.1, hr.2.2.1, hr.2.2.2⟩
set_option maxHeartbeats 4000000 in
theorem r_thrown {E : pmEv} {h : pmH} {z : Option Nat} {m : Nat} {g : Nat → Int32} {A : Nat → Nat → Int32} (hR : RfA h m g A) : Call E mRef_thrown [.ref m] h z 0 0 (Ret (some (.int (g 0))) (h, z, false)) := by
  refine call_of (L := [some (.ref m)]) ok_mRef_thrown (Nat.le_of_ble_eq_true rfl) ?_
  refine go_aload_n dRef_thrown_0 rfl ?_
  refine go_getf dRef_thrown_1 qf_Ref_59 hR.1 rfl ?_
  refine go_iret dRef_thrown_4 rfl rfl ?_ (Nat.le_of_ble_eq_true rfl) (Nat.le_of_ble_eq_true rfl)
  exact ret_v
set_option maxHeartbeats 4000000 in
theorem l_Ref_change_in {E : pmEv} {h0 : pmH} {z : Option Nat} {m : Nat} {g : Nat → Int32} {A : Nat → Nat → Int32} {E2 : aExt} {fl fs fb : Nat → Int32} {k t : Nat} (hk6 : k < 6) (ht : t ≤ k) : ∀ (n : Nat) (i : Nat) (fc : Nat → Int32) (h : pmH) (d : Bool), i + n = 40 → RfA h m g (uA (uA (uA A 3 fl) 4 fs) 5 fc) → cpI fb fc k t i → Sm h0 h m 17 → (∀ hx dx (fb' : Nat → Int32), RfA hx m g (uA (uA (uA A 3 fl) 4 fs) 5 fb') → (∀ j, fb' j = va_cpy fb fb (40 * k) (40 * t) 40 j) → Sm h0 hx m 17 → Go E (mRef_change, h0, 0, 0) 87 [some (.ref m), some (.int (nI (t))), some (.int (nI (k))), some (.int (nI (40)))] [] (hx, z, dx) 0 0 (RetX none (fun h' => (∃ fl fs fb, RfA h' m (upd g 10 (nI E2.2.2.2)) (uA (uA (uA A 3 fl) 4 fs) 5 fb) ∧ eAr E2 fl fs fb) ∧ Sm h0 h' m 17) z)) → Go E (mRef_change, h0, 0, 0) 53 [some (.ref m), some (.int (nI (t))), some (.int (nI (k))), some (.int (nI (i)))] [] (h, z, d) 0 0 (RetX none (fun h' => (∃ fl fs fb, RfA h' m (upd g 10 (nI E2.2.2.2)) (uA (uA (uA A 3 fl) 4 fs) 5 fb) ∧ eAr E2 fl fs fb) ∧ Sm h0 h' m 17) z) := by
  intro n
  induction n with
  | zero =>
    intro i fc h d hi hR hc hs hk
    refine go_iload_n dRef_change_53 rfl ?_
    refine go_bipush (v := 40) dRef_change_54 (by decide) ?_
    refine go_icmp_ge (tgt := 87) dRef_change_56 (fun c1 => ?_) (fun c1 => ?_)
    · obtain rfl : i = 40 := by omega
      exact hk h d fc hR (fun j => hc.all j) hs
    · exact absurd (nI_le (a := 40) (b := i) (by omega) (by omega)) c1
  | succ n ih =>
    intro i fc h d hi hR hc hs hk
    refine go_iload_n dRef_change_53 rfl ?_
    refine go_bipush (v := 40) dRef_change_54 (by decide) ?_
    refine go_icmp_ge (tgt := 87) dRef_change_56 (fun c1 => ?_) (fun c1 => ?_)
    · exact absurd c1 (nI_ge (a := i) (b := 40) (by omega) (by omega))
    · refine go_aload_n dRef_change_59 rfl ?_
      refine go_getf dRef_change_60 qf_Ref_25 hR.1 rfl ?_
      refine go_bipush (v := 40) dRef_change_63 (by decide) ?_
      refine go_iload_n dRef_change_65 rfl ?_
      refine go_imul dRef_change_66 ?_
      refine go_iload_n dRef_change_67 rfl ?_
      refine go_iadd dRef_change_68 ?_
      refine go_top (y := nI (40 * t + i)) (by rw [show (40 : Int32) = nI 40 from rfl, pk_mul, nI_add]) ?_
      refine go_aload_n dRef_change_69 rfl ?_
      refine go_getf dRef_change_70 qf_Ref_25 hR.1 rfl ?_
      refine go_bipush (v := 40) dRef_change_73 (by decide) ?_
      refine go_iload_n dRef_change_75 rfl ?_
      refine go_imul dRef_change_76 ?_
      refine go_iload_n dRef_change_77 rfl ?_
      refine go_iadd dRef_change_78 ?_
      refine go_top (y := nI (40 * k + i)) (by rw [show (40 : Int32) = nI 40 from rfl, pk_mul, nI_add]) ?_
      refine go_iald dRef_change_79 hR.2.2.2.2.2.2.1 (by exact vp_in_nI (by omega) (by omega)) (congrArg _ (nI_clamp (by omega))) ?_
      refine go_iast dRef_change_80 hR.2.2.2.2.2.2.1 (by exact vp_in_nI (by omega) (by omega)) (nI_clamp (by omega)) ?_
      refine go_iinc dRef_change_81 rfl (congrArg (_ + ·) lit1) ?_
      refine go_goto (tgt := 53) dRef_change_84 ?_
      refine go_nm (fun hnk1 enk1 => ?_)
      have gsk1 : Sm h hnk1 m 17 := by rw [enk1]; exact (Sm.put' (Sm.refl _ _ _) _ (by omega) (by omega))
      have hRk1 : RfA hnk1 m (g) ((uA (uA (uA A 3 fl) 4 fs) 5 (upd fc (40 * t + i) (fc (40 * k + i))))) := ⟨(congrFun enk1 m).trans ((pmU_n _ _ (by omega)).trans hR.1), (congrFun enk1 (m + 1)).trans ((pmU_n _ _ (by omega)).trans hR.2.1), (congrFun enk1 (m + 2)).trans ((pmU_n _ _ (by omega)).trans hR.2.2.1), (congrFun enk1 (m + 3)).trans ((pmU_n _ _ (by omega)).trans hR.2.2.2.1), (congrFun enk1 (m + 4)).trans ((pmU_n _ _ (by omega)).trans hR.2.2.2.2.1), (congrFun enk1 (m + 5)).trans ((pmU_n _ _ (by omega)).trans hR.2.2.2.2.2.1), (congrFun enk1 (m + 6)).trans (pmU_s _ _ _), (congrFun enk1 (m + 7)).trans ((pmU_n _ _ (by omega)).trans hR.2.2.2.2.2.2.2.1), (congrFun enk1 (m + 8)).trans ((pmU_n _ _ (by omega)).trans hR.2.2.2.2.2.2.2.2.1), (congrFun enk1 (m + 9)).trans ((pmU_n _ _ (by omega)).trans hR.2.2.2.2.2.2.2.2.2.1), (congrFun enk1 (m + 10)).trans ((pmU_n _ _ (by omega)).trans hR.2.2.2.2.2.2.2.2.2.2.1), (congrFun enk1 (m + 11)).trans ((pmU_n _ _ (by omega)).trans hR.2.2.2.2.2.2.2.2.2.2.2.1), (congrFun enk1 (m + 12)).trans ((pmU_n _ _ (by omega)).trans hR.2.2.2.2.2.2.2.2.2.2.2.2.1), (congrFun enk1 (m + 13)).trans ((pmU_n _ _ (by omega)).trans hR.2.2.2.2.2.2.2.2.2.2.2.2.2.1), (congrFun enk1 (m + 14)).trans ((pmU_n _ _ (by omega)).trans hR.2.2.2.2.2.2.2.2.2.2.2.2.2.2.1), (congrFun enk1 (m + 15)).trans ((pmU_n _ _ (by omega)).trans hR.2.2.2.2.2.2.2.2.2.2.2.2.2.2.2.1), (congrFun enk1 (m + 16)).trans ((pmU_n _ _ (by omega)).trans hR.2.2.2.2.2.2.2.2.2.2.2.2.2.2.2.2)⟩
      have sk1 := hs.trans gsk1
      exact go_at (ih (i + 1) _ _ _ (by omega) hRk1 (cpS hc ht hi) sk1 hk) rfl (by rw [nI_succ i]; rfl) rfl rfl
set_option maxHeartbeats 4000000 in
theorem l_Ref_change {E : pmEv} {h0 : pmH} {z : Option Nat} {m : Nat} {g : Nat → Int32} {A : Nat → Nat → Int32} {E2 : aExt} {c : Nat} (hg : g 10 = nI c) (hc6 : c ≤ 6) : ∀ (n : Nat) (k : Nat) (t : Nat) (e : aExt) (fl : Nat → Int32) (fs : Nat → Int32) (fb : Nat → Int32) (h : pmH) (d : Bool), k + n = c → e.2.2.2 = c → t ≤ k → RfA h m g (uA (uA (uA A 3 fl) 4 fs) 5 fb) → eAr e fl fs fb → (∀ j, k ≤ j → j < k + n → exOk (e.1 j)) → Sm h0 h m 17 → E2 = exSafe n k t e → Go E (mRef_change, h0, 0, 0) 4 [some (.ref m), some (.int (nI (t))), some (.int (nI (k))), none] [] (h, z, d) 0 0 (RetX none (fun h' => (∃ fl fs fb, RfA h' m (upd g 10 (nI E2.2.2.2)) (uA (uA (uA A 3 fl) 4 fs) 5 fb) ∧ eAr E2 fl fs fb) ∧ Sm h0 h' m 17) z) := by
  intro n
  induction n with
  | zero =>
    intro k t e fl fs fb h d hk hec ht hR hE hx hs hE2
    refine go_iload_n dRef_change_4 rfl ?_
    refine go_aload_n dRef_change_5 rfl ?_
    refine go_getf dRef_change_6 qf_Ref_86 hR.1 rfl ?_
    refine go_top (y := nI c) (by exact hg) ?_
    refine go_icmp_ge (tgt := 96) dRef_change_9 (fun c1 => ?_) (fun c1 => ?_)
    · refine go_aload_n dRef_change_96 rfl ?_
      refine go_iload_n dRef_change_97 rfl ?_
      refine go_putf dRef_change_98 qf_Ref_86 pw_8_10 hR.1 rfl rfl ?_
      refine go_nm (fun hnk1 enk1 => ?_)
      have gsk1 : Sm h hnk1 m 17 := by rw [enk1]; exact (Sm.put' (Sm.refl _ _ _) _ (by omega) (by omega))
      have hRk1 : RfA hnk1 m (upd g 10 (nI t)) ((uA (uA (uA A 3 fl) 4 fs) 5 fb)) := ⟨(congrFun enk1 m).trans (pmU_s _ _ _), (congrFun enk1 (m + 1)).trans ((pmU_n _ _ (by omega)).trans hR.2.1), (congrFun enk1 (m + 2)).trans ((pmU_n _ _ (by omega)).trans hR.2.2.1), (congrFun enk1 (m + 3)).trans ((pmU_n _ _ (by omega)).trans hR.2.2.2.1), (congrFun enk1 (m + 4)).trans ((pmU_n _ _ (by omega)).trans hR.2.2.2.2.1), (congrFun enk1 (m + 5)).trans ((pmU_n _ _ (by omega)).trans hR.2.2.2.2.2.1), (congrFun enk1 (m + 6)).trans ((pmU_n _ _ (by omega)).trans hR.2.2.2.2.2.2.1), (congrFun enk1 (m + 7)).trans ((pmU_n _ _ (by omega)).trans hR.2.2.2.2.2.2.2.1), (congrFun enk1 (m + 8)).trans ((pmU_n _ _ (by omega)).trans hR.2.2.2.2.2.2.2.2.1), (congrFun enk1 (m + 9)).trans ((pmU_n _ _ (by omega)).trans hR.2.2.2.2.2.2.2.2.2.1), (congrFun enk1 (m + 10)).trans ((pmU_n _ _ (by omega)).trans hR.2.2.2.2.2.2.2.2.2.2.1), (congrFun enk1 (m + 11)).trans ((pmU_n _ _ (by omega)).trans hR.2.2.2.2.2.2.2.2.2.2.2.1), (congrFun enk1 (m + 12)).trans ((pmU_n _ _ (by omega)).trans hR.2.2.2.2.2.2.2.2.2.2.2.2.1), (congrFun enk1 (m + 13)).trans ((pmU_n _ _ (by omega)).trans hR.2.2.2.2.2.2.2.2.2.2.2.2.2.1), (congrFun enk1 (m + 14)).trans ((pmU_n _ _ (by omega)).trans hR.2.2.2.2.2.2.2.2.2.2.2.2.2.2.1), (congrFun enk1 (m + 15)).trans ((pmU_n _ _ (by omega)).trans hR.2.2.2.2.2.2.2.2.2.2.2.2.2.2.2.1), (congrFun enk1 (m + 16)).trans ((pmU_n _ _ (by omega)).trans hR.2.2.2.2.2.2.2.2.2.2.2.2.2.2.2.2)⟩
      have sk1 := hs.trans gsk1
      refine go_vret dRef_change_101 rfl ?_ (Nat.le_of_ble_eq_true rfl) (Nat.le_of_ble_eq_true rfl)
      subst hE2
      exact retX ⟨⟨fl, fs, fb, hRk1, eAr_le hE (by omega)⟩, sk1⟩
    · exact absurd (nI_le (a := c) (b := k) (by omega) (by omega)) c1
  | succ n ih =>
    intro k t e fl fs fb h d hk hec ht hR hE hx hs hE2
    refine go_iload_n dRef_change_4 rfl ?_
    refine go_aload_n dRef_change_5 rfl ?_
    refine go_getf dRef_change_6 qf_Ref_86 hR.1 rfl ?_
    refine go_top (y := nI c) (by exact hg) ?_
    refine go_icmp_ge (tgt := 96) dRef_change_9 (fun c1 => ?_) (fun c1 => ?_)
    · exact absurd c1 (nI_ge (a := k) (b := c) (by omega) (by omega))
    · refine go_aload_n dRef_change_12 rfl ?_
      refine go_getf dRef_change_13 qf_Ref_19 hR.1 rfl ?_
      refine go_iload_n dRef_change_16 rfl ?_
      refine go_iald dRef_change_17 hR.2.2.2.2.1 (by exact vp_in_nI (by omega) (by omega)) (congrArg _ (nI_clamp (by omega))) ?_
      refine go_sipush (v := 256) dRef_change_18 (by decide) ?_
      refine go_irem dRef_change_21 (by decide) ?_
      refine go_bipush (v := 90) dRef_change_22 (by decide) ?_
      refine go_icmp_le (tgt := 90) dRef_change_24 (fun c2 => ?_) (fun c2 => ?_)
      · refine go_iinc dRef_change_90 rfl (congrArg (_ + ·) lit1) ?_
        refine go_goto (tgt := 4) dRef_change_93 ?_
        have hgr : 65 ≤ ltr (e.1 k) 3 ∧ ltr (e.1 k) 3 ≤ 90 := by
          have cc : fl k - fl k / 256 * 256 ≤ 90 := c2
          rw [hE.1 k (by omega)] at cc
          exact gr_le (hx k (by omega) (by omega)) cc
        exact go_at (ih (k + 1) t e fl fs fb h d (by omega) hec (by omega) hR hE (fun j h1 h2 => hx j (by omega) (by omega)) hs (by rw [hE2, exSafe, if_pos hgr])) rfl (by rw [nI_succ k]; rfl) rfl rfl
      · refine go_aload_n dRef_change_27 rfl ?_
        refine go_getf dRef_change_28 qf_Ref_19 hR.1 rfl ?_
        refine go_iload_n dRef_change_31 rfl ?_
        refine go_aload_n dRef_change_32 rfl ?_
        refine go_getf dRef_change_33 qf_Ref_19 hR.1 rfl ?_
        refine go_iload_n dRef_change_36 rfl ?_
        refine go_iald dRef_change_37 hR.2.2.2.2.1 (by exact vp_in_nI (by omega) (by omega)) (congrArg _ (nI_clamp (by omega))) ?_
        refine go_iast dRef_change_38 hR.2.2.2.2.1 (by exact vp_in_nI (by omega) (by omega)) (nI_clamp (by omega)) ?_
        refine go_aload_n dRef_change_39 rfl ?_
        refine go_getf dRef_change_40 qf_Ref_22 ((pmU_n _ _ (by omega)).trans hR.1) rfl ?_
        refine go_iload_n dRef_change_43 rfl ?_
        refine go_aload_n dRef_change_44 rfl ?_
        refine go_getf dRef_change_45 qf_Ref_22 ((pmU_n _ _ (by omega)).trans hR.1) rfl ?_
        refine go_iload_n dRef_change_48 rfl ?_
        refine go_iald dRef_change_49 ((pmU_n _ _ (by omega)).trans hR.2.2.2.2.2.1) (by exact vp_in_nI (by omega) (by omega)) (congrArg _ (nI_clamp (by omega))) ?_
        refine go_iast dRef_change_50 ((pmU_n _ _ (by omega)).trans hR.2.2.2.2.2.1) (by exact vp_in_nI (by omega) (by omega)) (nI_clamp (by omega)) ?_
        refine go_iconst (v := 0) dRef_change_51 (by decide) ?_
        refine go_istore_n dRef_change_52 ?_
        have hng : ¬ (65 ≤ ltr (e.1 k) 3 ∧ ltr (e.1 k) 3 ≤ 90) := by
          have cc : ¬ fl k - fl k / 256 * 256 ≤ 90 := c2
          rw [hE.1 k (by omega)] at cc
          exact gr_gt (hx k (by omega) (by omega)) cc
        refine go_nm (fun hnk1 enk1 => ?_)
        have gsk1 : Sm h hnk1 m 17 := by rw [enk1]; exact (Sm.put' (Sm.put' (Sm.refl _ _ _) _ (by omega) (by omega)) _ (by omega) (by omega))
        have hRk1 : RfA hnk1 m (g) ((uA (uA (uA A 3 (upd fl t (fl k))) 4 (upd fs t (fs k))) 5 fb)) := ⟨(congrFun enk1 m).trans ((pmU_n _ _ (by omega)).trans ((pmU_n _ _ (by omega)).trans hR.1)), (congrFun enk1 (m + 1)).trans ((pmU_n _ _ (by omega)).trans ((pmU_n _ _ (by omega)).trans hR.2.1)), (congrFun enk1 (m + 2)).trans ((pmU_n _ _ (by omega)).trans ((pmU_n _ _ (by omega)).trans hR.2.2.1)), (congrFun enk1 (m + 3)).trans ((pmU_n _ _ (by omega)).trans ((pmU_n _ _ (by omega)).trans hR.2.2.2.1)), (congrFun enk1 (m + 4)).trans ((pmU_n _ _ (by omega)).trans (pmU_s _ _ _)), (congrFun enk1 (m + 5)).trans (pmU_s _ _ _), (congrFun enk1 (m + 6)).trans ((pmU_n _ _ (by omega)).trans ((pmU_n _ _ (by omega)).trans hR.2.2.2.2.2.2.1)), (congrFun enk1 (m + 7)).trans ((pmU_n _ _ (by omega)).trans ((pmU_n _ _ (by omega)).trans hR.2.2.2.2.2.2.2.1)), (congrFun enk1 (m + 8)).trans ((pmU_n _ _ (by omega)).trans ((pmU_n _ _ (by omega)).trans hR.2.2.2.2.2.2.2.2.1)), (congrFun enk1 (m + 9)).trans ((pmU_n _ _ (by omega)).trans ((pmU_n _ _ (by omega)).trans hR.2.2.2.2.2.2.2.2.2.1)), (congrFun enk1 (m + 10)).trans ((pmU_n _ _ (by omega)).trans ((pmU_n _ _ (by omega)).trans hR.2.2.2.2.2.2.2.2.2.2.1)), (congrFun enk1 (m + 11)).trans ((pmU_n _ _ (by omega)).trans ((pmU_n _ _ (by omega)).trans hR.2.2.2.2.2.2.2.2.2.2.2.1)), (congrFun enk1 (m + 12)).trans ((pmU_n _ _ (by omega)).trans ((pmU_n _ _ (by omega)).trans hR.2.2.2.2.2.2.2.2.2.2.2.2.1)), (congrFun enk1 (m + 13)).trans ((pmU_n _ _ (by omega)).trans ((pmU_n _ _ (by omega)).trans hR.2.2.2.2.2.2.2.2.2.2.2.2.2.1)), (congrFun enk1 (m + 14)).trans ((pmU_n _ _ (by omega)).trans ((pmU_n _ _ (by omega)).trans hR.2.2.2.2.2.2.2.2.2.2.2.2.2.2.1)), (congrFun enk1 (m + 15)).trans ((pmU_n _ _ (by omega)).trans ((pmU_n _ _ (by omega)).trans hR.2.2.2.2.2.2.2.2.2.2.2.2.2.2.2.1)), (congrFun enk1 (m + 16)).trans ((pmU_n _ _ (by omega)).trans ((pmU_n _ _ (by omega)).trans hR.2.2.2.2.2.2.2.2.2.2.2.2.2.2.2.2))⟩
        have sk1 := hs.trans gsk1
        refine l_Ref_change_in (fb := fb) (k := k) (t := t) (by omega) ht 40 0 fb _ _ (by omega) hRk1 cpI.zero sk1 (fun hx2 dx2 fb2 hR2 hb2 hs2 => ?_)
        refine go_iinc dRef_change_87 rfl (congrArg (_ + ·) lit1) ?_
        refine go_iinc dRef_change_90 rfl (congrArg (_ + ·) lit1) ?_
        refine go_goto (tgt := 4) dRef_change_93 ?_
        refine go_fg 3 ?_
        exact go_at (ih (k + 1) (t + 1) (exMv e k t) _ _ fb2 hx2 dx2 (by omega) hec (by omega) hR2 ((eAr_mv hE (by omega) (by omega)).cg hb2) (mv_ok ht hx) hs2 (by rw [hE2, exSafe, if_neg hng])) rfl (by rw [nI_succ k, nI_succ t]; rfl) rfl rfl
set_option maxHeartbeats 4000000 in
theorem r_change {E : pmEv} {h : pmH} {z : Option Nat} {m : Nat} {g : Nat → Int32} {A : Nat → Nat → Int32} {e : aExt} (hg : g 10 = nI e.2.2.2) (hc6 : e.2.2.2 ≤ 6) (hE : eAr e (A 3) (A 4) (A 5)) (hx : ∀ k, k < e.2.2.2 → exOk (e.1 k)) (hR : RfA h m g A) : Call E mRef_change [.ref m] h z 0 0 (RetX none (fun h' => (∃ fl fs fb, RfA h' m (upd g 10 (nI (exSafe e.2.2.2 0 0 e).2.2.2)) (uA (uA (uA A 3 fl) 4 fs) 5 fb) ∧ eAr (exSafe e.2.2.2 0 0 e) fl fs fb) ∧ Sm h h' m 17) z) := by
  refine call_of (L := [some (.ref m), none, none, none]) ok_mRef_change (Nat.le_of_ble_eq_true rfl) ?_
  refine go_iconst (v := 0) dRef_change_0 (by decide) ?_
  refine go_istore_n dRef_change_1 ?_
  refine go_iconst (v := 0) dRef_change_2 (by decide) ?_
  refine go_istore_n dRef_change_3 ?_
  exact l_Ref_change hg hc6 e.2.2.2 0 0 e (A 3) (A 4) (A 5) h false (by omega) rfl (Nat.le_refl _) hR hE (fun j _ h2 => hx j (by omega)) (Sm.refl _ _ _) rfl
set_option maxHeartbeats 4000000 in
theorem r_tag {E : pmEv} {h : pmH} {m : Nat} {g : Nat → Int32} {A : Nat → Nat → Int32} {α : aPF} {a1 a2 : Int32} (hR : RfA h m g A) (hr : RR g A α) (hv : IvA α) : Call E mRef_tag [.ref m, .int a1, .int a2] h none 0 0 (RetR m h [1, 2] (some (.int 0)) (tgF α a1 a2)) := by
  have hs : Sm h h m 17 := Sm.refl _ _ _
  have ho := hr.1
  have ht : g 1 = 0 ↔ ¬ α.1.1 = true := by rw [ho.1]; exact bI_0
  refine call_of (L := [some (.ref m), some (.int a1), some (.int a2), none]) ok_mRef_tag (Nat.le_of_ble_eq_true rfl) ?_
  refine go_aload_n dRef_tag_0 rfl ?_
  refine go_aload_n dRef_tag_1 rfl ?_
  refine go_getf dRef_tag_2 qf_Ref_67 hR.1 rfl ?_
  refine go_if_ne (tgt := 12) dRef_tag_5 (fun c1 => ?_) (fun c1 => ?_)
  · refine go_iload_n dRef_tag_12 rfl ?_
    refine go_if_lt (tgt := 35) dRef_tag_13 (fun c2 => ?_) (fun c2 => ?_)
    · refine go_iconst (v := 2) dRef_tag_35 (by decide) ?_
      refine go_goto (tgt := 40) dRef_tag_36 ?_
      refine go_putf dRef_tag_40 qf_Ref_59 pw_8_0 hR.1 rfl rfl ?_
      refine go_aload_n dRef_tag_43 rfl ?_
      refine go_getf dRef_tag_44 qf_Ref_59 (pmU_s _ _ _) rfl ?_
      refine go_if_le (tgt := 52) dRef_tag_47 (fun cc => absurd cc (by decide)) (fun _ => ?_)
      refine go_nm (fun hnk1 enk1 => ?_)
      have gsk1 : Sm h hnk1 m 17 := by rw [enk1]; exact (Sm.put' (Sm.refl _ _ _) _ (by omega) (by omega))
      have hRk1 : RfA hnk1 m (upd g 0 2) (A) := ⟨(congrFun enk1 m).trans (pmU_s _ _ _), (congrFun enk1 (m + 1)).trans ((pmU_n _ _ (by omega)).trans hR.2.1), (congrFun enk1 (m + 2)).trans ((pmU_n _ _ (by omega)).trans hR.2.2.1), (congrFun enk1 (m + 3)).trans ((pmU_n _ _ (by omega)).trans hR.2.2.2.1), (congrFun enk1 (m + 4)).trans ((pmU_n _ _ (by omega)).trans hR.2.2.2.2.1), (congrFun enk1 (m + 5)).trans ((pmU_n _ _ (by omega)).trans hR.2.2.2.2.2.1), (congrFun enk1 (m + 6)).trans ((pmU_n _ _ (by omega)).trans hR.2.2.2.2.2.2.1), (congrFun enk1 (m + 7)).trans ((pmU_n _ _ (by omega)).trans hR.2.2.2.2.2.2.2.1), (congrFun enk1 (m + 8)).trans ((pmU_n _ _ (by omega)).trans hR.2.2.2.2.2.2.2.2.1), (congrFun enk1 (m + 9)).trans ((pmU_n _ _ (by omega)).trans hR.2.2.2.2.2.2.2.2.2.1), (congrFun enk1 (m + 10)).trans ((pmU_n _ _ (by omega)).trans hR.2.2.2.2.2.2.2.2.2.2.1), (congrFun enk1 (m + 11)).trans ((pmU_n _ _ (by omega)).trans hR.2.2.2.2.2.2.2.2.2.2.2.1), (congrFun enk1 (m + 12)).trans ((pmU_n _ _ (by omega)).trans hR.2.2.2.2.2.2.2.2.2.2.2.2.1), (congrFun enk1 (m + 13)).trans ((pmU_n _ _ (by omega)).trans hR.2.2.2.2.2.2.2.2.2.2.2.2.2.1), (congrFun enk1 (m + 14)).trans ((pmU_n _ _ (by omega)).trans hR.2.2.2.2.2.2.2.2.2.2.2.2.2.2.1), (congrFun enk1 (m + 15)).trans ((pmU_n _ _ (by omega)).trans hR.2.2.2.2.2.2.2.2.2.2.2.2.2.2.2.1), (congrFun enk1 (m + 16)).trans ((pmU_n _ _ (by omega)).trans hR.2.2.2.2.2.2.2.2.2.2.2.2.2.2.2.2)⟩
      have sk1 := hs.trans gsk1
      refine go_iconst (v := 0) dRef_tag_50 (by decide) ?_
      refine go_iret dRef_tag_51 rfl rfl ?_ (Nat.le_of_ble_eq_true rfl) (Nat.le_of_ble_eq_true rfl)
      have t1 : α.1.1 = true := Decidable.not_not.mp fun q => c1 (ht.mpr q)
      exact retR_no (by rw [tgF, if_neg (fun q => q t1), if_pos (fun q => absurd q.1 (Int32.not_le.mpr c2))]) hRk1 hr rfl sk1
    · refine go_iload_n dRef_tag_16 rfl ?_
      refine go_iconst (v := 2) dRef_tag_17 (by decide) ?_
      refine go_icmp_gt (tgt := 35) dRef_tag_18 (fun c3 => ?_) (fun c3 => ?_)
      · refine go_iconst (v := 2) dRef_tag_35 (by decide) ?_
        refine go_goto (tgt := 40) dRef_tag_36 ?_
        refine go_putf dRef_tag_40 qf_Ref_59 pw_8_0 hR.1 rfl rfl ?_
        refine go_aload_n dRef_tag_43 rfl ?_
        refine go_getf dRef_tag_44 qf_Ref_59 (pmU_s _ _ _) rfl ?_
        refine go_if_le (tgt := 52) dRef_tag_47 (fun cc => absurd cc (by decide)) (fun _ => ?_)
        refine go_nm (fun hnk2 enk2 => ?_)
        have gsk2 : Sm h hnk2 m 17 := by rw [enk2]; exact (Sm.put' (Sm.refl _ _ _) _ (by omega) (by omega))
        have hRk2 : RfA hnk2 m (upd g 0 2) (A) := ⟨(congrFun enk2 m).trans (pmU_s _ _ _), (congrFun enk2 (m + 1)).trans ((pmU_n _ _ (by omega)).trans hR.2.1), (congrFun enk2 (m + 2)).trans ((pmU_n _ _ (by omega)).trans hR.2.2.1), (congrFun enk2 (m + 3)).trans ((pmU_n _ _ (by omega)).trans hR.2.2.2.1), (congrFun enk2 (m + 4)).trans ((pmU_n _ _ (by omega)).trans hR.2.2.2.2.1), (congrFun enk2 (m + 5)).trans ((pmU_n _ _ (by omega)).trans hR.2.2.2.2.2.1), (congrFun enk2 (m + 6)).trans ((pmU_n _ _ (by omega)).trans hR.2.2.2.2.2.2.1), (congrFun enk2 (m + 7)).trans ((pmU_n _ _ (by omega)).trans hR.2.2.2.2.2.2.2.1), (congrFun enk2 (m + 8)).trans ((pmU_n _ _ (by omega)).trans hR.2.2.2.2.2.2.2.2.1), (congrFun enk2 (m + 9)).trans ((pmU_n _ _ (by omega)).trans hR.2.2.2.2.2.2.2.2.2.1), (congrFun enk2 (m + 10)).trans ((pmU_n _ _ (by omega)).trans hR.2.2.2.2.2.2.2.2.2.2.1), (congrFun enk2 (m + 11)).trans ((pmU_n _ _ (by omega)).trans hR.2.2.2.2.2.2.2.2.2.2.2.1), (congrFun enk2 (m + 12)).trans ((pmU_n _ _ (by omega)).trans hR.2.2.2.2.2.2.2.2.2.2.2.2.1), (congrFun enk2 (m + 13)).trans ((pmU_n _ _ (by omega)).trans hR.2.2.2.2.2.2.2.2.2.2.2.2.2.1), (congrFun enk2 (m + 14)).trans ((pmU_n _ _ (by omega)).trans hR.2.2.2.2.2.2.2.2.2.2.2.2.2.2.1), (congrFun enk2 (m + 15)).trans ((pmU_n _ _ (by omega)).trans hR.2.2.2.2.2.2.2.2.2.2.2.2.2.2.2.1), (congrFun enk2 (m + 16)).trans ((pmU_n _ _ (by omega)).trans hR.2.2.2.2.2.2.2.2.2.2.2.2.2.2.2.2)⟩
        have sk2 := hs.trans gsk2
        refine go_iconst (v := 0) dRef_tag_50 (by decide) ?_
        refine go_iret dRef_tag_51 rfl rfl ?_ (Nat.le_of_ble_eq_true rfl) (Nat.le_of_ble_eq_true rfl)
        have t1 : α.1.1 = true := Decidable.not_not.mp fun q => c1 (ht.mpr q)
        exact retR_no (by rw [tgF, if_neg (fun q => q t1), if_pos (fun q => absurd q.2 (Int32.not_lt.mpr (lt_s3 c3)))]) hRk2 hr rfl sk2
      · refine go_iload_n dRef_tag_21 rfl ?_
        refine go_iconst (v := -1) dRef_tag_22 (by decide) ?_
        refine go_icmp_eq (tgt := 39) dRef_tag_23 (fun c4 => ?_) (fun c4 => ?_)
        · refine go_iconst (v := 0) dRef_tag_39 (by decide) ?_
          refine go_putf dRef_tag_40 qf_Ref_59 pw_8_0 hR.1 rfl rfl ?_
          refine go_aload_n dRef_tag_43 rfl ?_
          refine go_getf dRef_tag_44 qf_Ref_59 (pmU_s _ _ _) rfl ?_
          refine go_if_le (tgt := 52) dRef_tag_47 (fun _ => ?_) (fun cc => absurd (by decide) cc)
          have t1 : α.1.1 = true := Decidable.not_not.mp fun q => c1 (ht.mpr q)
          obtain ⟨k5, hk5, rfl⟩ := has_ex (c := 3) (by omega) ⟨Int32.not_lt.mp c2, lt_3 c3⟩
          have hτ := (ho.2.1 t1).2.2
          refine go_aload_n dRef_tag_52 rfl ?_
          refine go_getf dRef_tag_53 qf_Ref_16 (pmU_s _ _ _) rfl ?_
          refine go_iload_n dRef_tag_56 rfl ?_
          refine go_iald dRef_tag_57 ((pmU_n _ _ (by omega)).trans hR.2.2.2.1) (by exact vp_in_nI (by omega) (by omega)) (congrArg _ (nI_clamp (by omega))) ?_
          refine go_istore_n dRef_tag_58 ?_
          refine go_aload_n dRef_tag_59 rfl ?_
          refine go_getf dRef_tag_60 qf_Ref_16 (pmU_s _ _ _) rfl ?_
          refine go_iload_n dRef_tag_63 rfl ?_
          refine go_iload_n dRef_tag_64 rfl ?_
          refine go_iast dRef_tag_65 ((pmU_n _ _ (by omega)).trans hR.2.2.2.1) (by exact vp_in_nI (by omega) (by omega)) (nI_clamp (by omega)) ?_
          refine go_nm (fun hnk3 enk3 => ?_)
          have gsk3 : Sm h hnk3 m 17 := by rw [enk3]; exact (Sm.put' (Sm.put' (Sm.refl _ _ _) _ (by omega) (by omega)) _ (by omega) (by omega))
          have hRk3 : RfA hnk3 m (upd g 0 0) (uA A 2 (upd (A 2) k5 a2)) := ⟨(congrFun enk3 m).trans ((pmU_n _ _ (by omega)).trans (pmU_s _ _ _)), (congrFun enk3 (m + 1)).trans ((pmU_n _ _ (by omega)).trans ((pmU_n _ _ (by omega)).trans hR.2.1)), (congrFun enk3 (m + 2)).trans ((pmU_n _ _ (by omega)).trans ((pmU_n _ _ (by omega)).trans hR.2.2.1)), (congrFun enk3 (m + 3)).trans (pmU_s _ _ _), (congrFun enk3 (m + 4)).trans ((pmU_n _ _ (by omega)).trans ((pmU_n _ _ (by omega)).trans hR.2.2.2.2.1)), (congrFun enk3 (m + 5)).trans ((pmU_n _ _ (by omega)).trans ((pmU_n _ _ (by omega)).trans hR.2.2.2.2.2.1)), (congrFun enk3 (m + 6)).trans ((pmU_n _ _ (by omega)).trans ((pmU_n _ _ (by omega)).trans hR.2.2.2.2.2.2.1)), (congrFun enk3 (m + 7)).trans ((pmU_n _ _ (by omega)).trans ((pmU_n _ _ (by omega)).trans hR.2.2.2.2.2.2.2.1)), (congrFun enk3 (m + 8)).trans ((pmU_n _ _ (by omega)).trans ((pmU_n _ _ (by omega)).trans hR.2.2.2.2.2.2.2.2.1)), (congrFun enk3 (m + 9)).trans ((pmU_n _ _ (by omega)).trans ((pmU_n _ _ (by omega)).trans hR.2.2.2.2.2.2.2.2.2.1)), (congrFun enk3 (m + 10)).trans ((pmU_n _ _ (by omega)).trans ((pmU_n _ _ (by omega)).trans hR.2.2.2.2.2.2.2.2.2.2.1)), (congrFun enk3 (m + 11)).trans ((pmU_n _ _ (by omega)).trans ((pmU_n _ _ (by omega)).trans hR.2.2.2.2.2.2.2.2.2.2.2.1)), (congrFun enk3 (m + 12)).trans ((pmU_n _ _ (by omega)).trans ((pmU_n _ _ (by omega)).trans hR.2.2.2.2.2.2.2.2.2.2.2.2.1)), (congrFun enk3 (m + 13)).trans ((pmU_n _ _ (by omega)).trans ((pmU_n _ _ (by omega)).trans hR.2.2.2.2.2.2.2.2.2.2.2.2.2.1)), (congrFun enk3 (m + 14)).trans ((pmU_n _ _ (by omega)).trans ((pmU_n _ _ (by omega)).trans hR.2.2.2.2.2.2.2.2.2.2.2.2.2.2.1)), (congrFun enk3 (m + 15)).trans ((pmU_n _ _ (by omega)).trans ((pmU_n _ _ (by omega)).trans hR.2.2.2.2.2.2.2.2.2.2.2.2.2.2.2.1)), (congrFun enk3 (m + 16)).trans ((pmU_n _ _ (by omega)).trans ((pmU_n _ _ (by omega)).trans hR.2.2.2.2.2.2.2.2.2.2.2.2.2.2.2.2))⟩
          have sk3 := hs.trans gsk3
          refine go_iload_n dRef_tag_66 rfl ?_
          refine go_iret dRef_tag_67 rfl rfl ?_ (Nat.le_of_ble_eq_true rfl) (Nat.le_of_ble_eq_true rfl)
          exact retR_ok (by rw [tgF, if_neg (fun q => q t1), if_neg (fun q => q ⟨Int32.not_lt.mp c2, lt_3 c3⟩), if_neg (fun q => q.1 c4), nI_clamp (n := k5) (by omega), hτ k5 hk5]) hRk3 (RR.tag t1 hr hk5) rfl sk3
        · refine go_iload_n dRef_tag_26 rfl ?_
          refine go_iload_n dRef_tag_27 rfl ?_
          refine go_i2l dRef_tag_28 ?_
          refine go_statP dRef_tag_29 ok_mRef_mayBe st_mRef_mayBe qm_Ref_107 r_mayBe ?_ (hnp := np_mRef_mayBe)
          refine go_ifne_b (tgt := 39) dRef_tag_32 (fun c5 => ?_) (fun c5 => ?_)
          · refine go_iconst (v := 0) dRef_tag_39 (by decide) ?_
            refine go_putf dRef_tag_40 qf_Ref_59 pw_8_0 hR.1 rfl rfl ?_
            refine go_aload_n dRef_tag_43 rfl ?_
            refine go_getf dRef_tag_44 qf_Ref_59 (pmU_s _ _ _) rfl ?_
            refine go_if_le (tgt := 52) dRef_tag_47 (fun _ => ?_) (fun cc => absurd (by decide) cc)
            have t1 : α.1.1 = true := Decidable.not_not.mp fun q => c1 (ht.mpr q)
            obtain ⟨k5, hk5, rfl⟩ := has_ex (c := 3) (by omega) ⟨Int32.not_lt.mp c2, lt_3 c3⟩
            have hτ := (ho.2.1 t1).2.2
            refine go_aload_n dRef_tag_52 rfl ?_
            refine go_getf dRef_tag_53 qf_Ref_16 (pmU_s _ _ _) rfl ?_
            refine go_iload_n dRef_tag_56 rfl ?_
            refine go_iald dRef_tag_57 ((pmU_n _ _ (by omega)).trans hR.2.2.2.1) (by exact vp_in_nI (by omega) (by omega)) (congrArg _ (nI_clamp (by omega))) ?_
            refine go_istore_n dRef_tag_58 ?_
            refine go_aload_n dRef_tag_59 rfl ?_
            refine go_getf dRef_tag_60 qf_Ref_16 (pmU_s _ _ _) rfl ?_
            refine go_iload_n dRef_tag_63 rfl ?_
            refine go_iload_n dRef_tag_64 rfl ?_
            refine go_iast dRef_tag_65 ((pmU_n _ _ (by omega)).trans hR.2.2.2.1) (by exact vp_in_nI (by omega) (by omega)) (nI_clamp (by omega)) ?_
            refine go_nm (fun hnk4 enk4 => ?_)
            have gsk4 : Sm h hnk4 m 17 := by rw [enk4]; exact (Sm.put' (Sm.put' (Sm.refl _ _ _) _ (by omega) (by omega)) _ (by omega) (by omega))
            have hRk4 : RfA hnk4 m (upd g 0 0) (uA A 2 (upd (A 2) k5 a2)) := ⟨(congrFun enk4 m).trans ((pmU_n _ _ (by omega)).trans (pmU_s _ _ _)), (congrFun enk4 (m + 1)).trans ((pmU_n _ _ (by omega)).trans ((pmU_n _ _ (by omega)).trans hR.2.1)), (congrFun enk4 (m + 2)).trans ((pmU_n _ _ (by omega)).trans ((pmU_n _ _ (by omega)).trans hR.2.2.1)), (congrFun enk4 (m + 3)).trans (pmU_s _ _ _), (congrFun enk4 (m + 4)).trans ((pmU_n _ _ (by omega)).trans ((pmU_n _ _ (by omega)).trans hR.2.2.2.2.1)), (congrFun enk4 (m + 5)).trans ((pmU_n _ _ (by omega)).trans ((pmU_n _ _ (by omega)).trans hR.2.2.2.2.2.1)), (congrFun enk4 (m + 6)).trans ((pmU_n _ _ (by omega)).trans ((pmU_n _ _ (by omega)).trans hR.2.2.2.2.2.2.1)), (congrFun enk4 (m + 7)).trans ((pmU_n _ _ (by omega)).trans ((pmU_n _ _ (by omega)).trans hR.2.2.2.2.2.2.2.1)), (congrFun enk4 (m + 8)).trans ((pmU_n _ _ (by omega)).trans ((pmU_n _ _ (by omega)).trans hR.2.2.2.2.2.2.2.2.1)), (congrFun enk4 (m + 9)).trans ((pmU_n _ _ (by omega)).trans ((pmU_n _ _ (by omega)).trans hR.2.2.2.2.2.2.2.2.2.1)), (congrFun enk4 (m + 10)).trans ((pmU_n _ _ (by omega)).trans ((pmU_n _ _ (by omega)).trans hR.2.2.2.2.2.2.2.2.2.2.1)), (congrFun enk4 (m + 11)).trans ((pmU_n _ _ (by omega)).trans ((pmU_n _ _ (by omega)).trans hR.2.2.2.2.2.2.2.2.2.2.2.1)), (congrFun enk4 (m + 12)).trans ((pmU_n _ _ (by omega)).trans ((pmU_n _ _ (by omega)).trans hR.2.2.2.2.2.2.2.2.2.2.2.2.1)), (congrFun enk4 (m + 13)).trans ((pmU_n _ _ (by omega)).trans ((pmU_n _ _ (by omega)).trans hR.2.2.2.2.2.2.2.2.2.2.2.2.2.1)), (congrFun enk4 (m + 14)).trans ((pmU_n _ _ (by omega)).trans ((pmU_n _ _ (by omega)).trans hR.2.2.2.2.2.2.2.2.2.2.2.2.2.2.1)), (congrFun enk4 (m + 15)).trans ((pmU_n _ _ (by omega)).trans ((pmU_n _ _ (by omega)).trans hR.2.2.2.2.2.2.2.2.2.2.2.2.2.2.2.1)), (congrFun enk4 (m + 16)).trans ((pmU_n _ _ (by omega)).trans ((pmU_n _ _ (by omega)).trans hR.2.2.2.2.2.2.2.2.2.2.2.2.2.2.2.2))⟩
            have sk4 := hs.trans gsk4
            refine go_iload_n dRef_tag_66 rfl ?_
            refine go_iret dRef_tag_67 rfl rfl ?_ (Nat.le_of_ble_eq_true rfl) (Nat.le_of_ble_eq_true rfl)
            exact retR_ok (by rw [tgF, if_neg (fun q => q t1), if_neg (fun q => q ⟨Int32.not_lt.mp c2, lt_3 c3⟩), if_neg (fun q => q.2 c5), nI_clamp (n := k5) (by omega), hτ k5 hk5]) hRk4 (RR.tag t1 hr hk5) rfl sk4
          · refine go_iconst (v := 2) dRef_tag_35 (by decide) ?_
            refine go_goto (tgt := 40) dRef_tag_36 ?_
            refine go_putf dRef_tag_40 qf_Ref_59 pw_8_0 hR.1 rfl rfl ?_
            refine go_aload_n dRef_tag_43 rfl ?_
            refine go_getf dRef_tag_44 qf_Ref_59 (pmU_s _ _ _) rfl ?_
            refine go_if_le (tgt := 52) dRef_tag_47 (fun cc => absurd cc (by decide)) (fun _ => ?_)
            refine go_nm (fun hnk5 enk5 => ?_)
            have gsk5 : Sm h hnk5 m 17 := by rw [enk5]; exact (Sm.put' (Sm.refl _ _ _) _ (by omega) (by omega))
            have hRk5 : RfA hnk5 m (upd g 0 2) (A) := ⟨(congrFun enk5 m).trans (pmU_s _ _ _), (congrFun enk5 (m + 1)).trans ((pmU_n _ _ (by omega)).trans hR.2.1), (congrFun enk5 (m + 2)).trans ((pmU_n _ _ (by omega)).trans hR.2.2.1), (congrFun enk5 (m + 3)).trans ((pmU_n _ _ (by omega)).trans hR.2.2.2.1), (congrFun enk5 (m + 4)).trans ((pmU_n _ _ (by omega)).trans hR.2.2.2.2.1), (congrFun enk5 (m + 5)).trans ((pmU_n _ _ (by omega)).trans hR.2.2.2.2.2.1), (congrFun enk5 (m + 6)).trans ((pmU_n _ _ (by omega)).trans hR.2.2.2.2.2.2.1), (congrFun enk5 (m + 7)).trans ((pmU_n _ _ (by omega)).trans hR.2.2.2.2.2.2.2.1), (congrFun enk5 (m + 8)).trans ((pmU_n _ _ (by omega)).trans hR.2.2.2.2.2.2.2.2.1), (congrFun enk5 (m + 9)).trans ((pmU_n _ _ (by omega)).trans hR.2.2.2.2.2.2.2.2.2.1), (congrFun enk5 (m + 10)).trans ((pmU_n _ _ (by omega)).trans hR.2.2.2.2.2.2.2.2.2.2.1), (congrFun enk5 (m + 11)).trans ((pmU_n _ _ (by omega)).trans hR.2.2.2.2.2.2.2.2.2.2.2.1), (congrFun enk5 (m + 12)).trans ((pmU_n _ _ (by omega)).trans hR.2.2.2.2.2.2.2.2.2.2.2.2.1), (congrFun enk5 (m + 13)).trans ((pmU_n _ _ (by omega)).trans hR.2.2.2.2.2.2.2.2.2.2.2.2.2.1), (congrFun enk5 (m + 14)).trans ((pmU_n _ _ (by omega)).trans hR.2.2.2.2.2.2.2.2.2.2.2.2.2.2.1), (congrFun enk5 (m + 15)).trans ((pmU_n _ _ (by omega)).trans hR.2.2.2.2.2.2.2.2.2.2.2.2.2.2.2.1), (congrFun enk5 (m + 16)).trans ((pmU_n _ _ (by omega)).trans hR.2.2.2.2.2.2.2.2.2.2.2.2.2.2.2.2)⟩
            have sk5 := hs.trans gsk5
            refine go_iconst (v := 0) dRef_tag_50 (by decide) ?_
            refine go_iret dRef_tag_51 rfl rfl ?_ (Nat.le_of_ble_eq_true rfl) (Nat.le_of_ble_eq_true rfl)
            have t1 : α.1.1 = true := Decidable.not_not.mp fun q => c1 (ht.mpr q)
            exact retR_no (by rw [tgF, if_neg (fun q => q t1), if_neg (fun q => q ⟨Int32.not_lt.mp c2, lt_3 c3⟩), if_pos ⟨c4, c5⟩]) hRk5 hr rfl sk5
  · refine go_iconst (v := 1) dRef_tag_8 (by decide) ?_
    refine go_goto (tgt := 40) dRef_tag_9 ?_
    refine go_putf dRef_tag_40 qf_Ref_59 pw_8_0 hR.1 rfl rfl ?_
    refine go_aload_n dRef_tag_43 rfl ?_
    refine go_getf dRef_tag_44 qf_Ref_59 (pmU_s _ _ _) rfl ?_
    refine go_if_le (tgt := 52) dRef_tag_47 (fun cc => absurd cc (by decide)) (fun _ => ?_)
    refine go_nm (fun hnk6 enk6 => ?_)
    have gsk6 : Sm h hnk6 m 17 := by rw [enk6]; exact (Sm.put' (Sm.refl _ _ _) _ (by omega) (by omega))
    have hRk6 : RfA hnk6 m (upd g 0 1) (A) := ⟨(congrFun enk6 m).trans (pmU_s _ _ _), (congrFun enk6 (m + 1)).trans ((pmU_n _ _ (by omega)).trans hR.2.1), (congrFun enk6 (m + 2)).trans ((pmU_n _ _ (by omega)).trans hR.2.2.1), (congrFun enk6 (m + 3)).trans ((pmU_n _ _ (by omega)).trans hR.2.2.2.1), (congrFun enk6 (m + 4)).trans ((pmU_n _ _ (by omega)).trans hR.2.2.2.2.1), (congrFun enk6 (m + 5)).trans ((pmU_n _ _ (by omega)).trans hR.2.2.2.2.2.1), (congrFun enk6 (m + 6)).trans ((pmU_n _ _ (by omega)).trans hR.2.2.2.2.2.2.1), (congrFun enk6 (m + 7)).trans ((pmU_n _ _ (by omega)).trans hR.2.2.2.2.2.2.2.1), (congrFun enk6 (m + 8)).trans ((pmU_n _ _ (by omega)).trans hR.2.2.2.2.2.2.2.2.1), (congrFun enk6 (m + 9)).trans ((pmU_n _ _ (by omega)).trans hR.2.2.2.2.2.2.2.2.2.1), (congrFun enk6 (m + 10)).trans ((pmU_n _ _ (by omega)).trans hR.2.2.2.2.2.2.2.2.2.2.1), (congrFun enk6 (m + 11)).trans ((pmU_n _ _ (by omega)).trans hR.2.2.2.2.2.2.2.2.2.2.2.1), (congrFun enk6 (m + 12)).trans ((pmU_n _ _ (by omega)).trans hR.2.2.2.2.2.2.2.2.2.2.2.2.1), (congrFun enk6 (m + 13)).trans ((pmU_n _ _ (by omega)).trans hR.2.2.2.2.2.2.2.2.2.2.2.2.2.1), (congrFun enk6 (m + 14)).trans ((pmU_n _ _ (by omega)).trans hR.2.2.2.2.2.2.2.2.2.2.2.2.2.2.1), (congrFun enk6 (m + 15)).trans ((pmU_n _ _ (by omega)).trans hR.2.2.2.2.2.2.2.2.2.2.2.2.2.2.2.1), (congrFun enk6 (m + 16)).trans ((pmU_n _ _ (by omega)).trans hR.2.2.2.2.2.2.2.2.2.2.2.2.2.2.2.2)⟩
    have sk6 := hs.trans gsk6
    refine go_iconst (v := 0) dRef_tag_50 (by decide) ?_
    refine go_iret dRef_tag_51 rfl rfl ?_ (Nat.le_of_ble_eq_true rfl) (Nat.le_of_ble_eq_true rfl)
    exact retR_no (by rw [tgF, if_pos (ht.mp c1)]) hRk6 hr rfl sk6
set_option maxHeartbeats 4000000 in
theorem r_colour {E : pmEv} {h : pmH} {m : Nat} {g : Nat → Int32} {A : Nat → Nat → Int32} {α : aPF} {a1 a2 a3 a4 : Int32} (hR : RfA h m g A) (hr : RR g A α) (hv : IvA α) : Call E mRef_colour [.ref m, .int a1, .int a2, .int a3, .int a4] h none 0 0 (RetR m h [1, 2, 0, 3] (some (.int 0)) (coF α a1 a2 a3 a4)) := by
  have hs : Sm h h m 17 := Sm.refl _ _ _
  have ho := hr.1
  have ht : g 1 = 0 ↔ ¬ α.1.1 = true := by rw [ho.1]; exact bI_0
  have hok := hv.1.1
  have hb := hok.b
  have hkk := hok.k
  have hwh := hok.w
  have hch := chN_le α.1.2.1.2.2.2
  have hc64 := hv.1.2.1.1
  have hx6 := hv.1.2.2.1.1
  refine call_of (L := [some (.ref m), some (.int a1), some (.int a2), some (.int a3), some (.int a4)]) ok_mRef_colour (Nat.le_of_ble_eq_true rfl) ?_
  refine go_aload_n dRef_colour_0 rfl ?_
  refine go_aload_n dRef_colour_1 rfl ?_
  refine go_getf dRef_colour_2 qf_Ref_67 hR.1 rfl ?_
  refine go_if_eq (tgt := 16) dRef_colour_5 (fun c1 => ?_) (fun c1 => ?_)
  · refine go_iconst (v := 1) dRef_colour_16 (by decide) ?_
    refine go_goto (tgt := 72) dRef_colour_17 ?_
    refine go_putf dRef_colour_72 qf_Ref_59 pw_8_0 hR.1 rfl rfl ?_
    refine go_aload_n dRef_colour_75 rfl ?_
    refine go_getf dRef_colour_76 qf_Ref_59 (pmU_s _ _ _) rfl ?_
    refine go_if_le (tgt := 84) dRef_colour_79 (fun cc => absurd cc (by decide)) (fun _ => ?_)
    refine go_nm (fun hnk1 enk1 => ?_)
    have gsk1 : Sm h hnk1 m 17 := by rw [enk1]; exact (Sm.put' (Sm.refl _ _ _) _ (by omega) (by omega))
    have hRk1 : RfA hnk1 m (upd g 0 1) (A) := ⟨(congrFun enk1 m).trans (pmU_s _ _ _), (congrFun enk1 (m + 1)).trans ((pmU_n _ _ (by omega)).trans hR.2.1), (congrFun enk1 (m + 2)).trans ((pmU_n _ _ (by omega)).trans hR.2.2.1), (congrFun enk1 (m + 3)).trans ((pmU_n _ _ (by omega)).trans hR.2.2.2.1), (congrFun enk1 (m + 4)).trans ((pmU_n _ _ (by omega)).trans hR.2.2.2.2.1), (congrFun enk1 (m + 5)).trans ((pmU_n _ _ (by omega)).trans hR.2.2.2.2.2.1), (congrFun enk1 (m + 6)).trans ((pmU_n _ _ (by omega)).trans hR.2.2.2.2.2.2.1), (congrFun enk1 (m + 7)).trans ((pmU_n _ _ (by omega)).trans hR.2.2.2.2.2.2.2.1), (congrFun enk1 (m + 8)).trans ((pmU_n _ _ (by omega)).trans hR.2.2.2.2.2.2.2.2.1), (congrFun enk1 (m + 9)).trans ((pmU_n _ _ (by omega)).trans hR.2.2.2.2.2.2.2.2.2.1), (congrFun enk1 (m + 10)).trans ((pmU_n _ _ (by omega)).trans hR.2.2.2.2.2.2.2.2.2.2.1), (congrFun enk1 (m + 11)).trans ((pmU_n _ _ (by omega)).trans hR.2.2.2.2.2.2.2.2.2.2.2.1), (congrFun enk1 (m + 12)).trans ((pmU_n _ _ (by omega)).trans hR.2.2.2.2.2.2.2.2.2.2.2.2.1), (congrFun enk1 (m + 13)).trans ((pmU_n _ _ (by omega)).trans hR.2.2.2.2.2.2.2.2.2.2.2.2.2.1), (congrFun enk1 (m + 14)).trans ((pmU_n _ _ (by omega)).trans hR.2.2.2.2.2.2.2.2.2.2.2.2.2.2.1), (congrFun enk1 (m + 15)).trans ((pmU_n _ _ (by omega)).trans hR.2.2.2.2.2.2.2.2.2.2.2.2.2.2.2.1), (congrFun enk1 (m + 16)).trans ((pmU_n _ _ (by omega)).trans hR.2.2.2.2.2.2.2.2.2.2.2.2.2.2.2.2)⟩
    have sk1 := hs.trans gsk1
    refine go_iconst (v := 0) dRef_colour_82 (by decide) ?_
    refine go_iret dRef_colour_83 rfl rfl ?_ (Nat.le_of_ble_eq_true rfl) (Nat.le_of_ble_eq_true rfl)
    exact retR_no (by rw [coF, if_pos (fun q => (ht.mp c1) q.1)]) hRk1 hr rfl sk1
  · have t1 : α.1.1 = true := Decidable.not_not.mp fun q => c1 (ht.mpr q)
    have hd := (ho.2.1 t1).1
    refine go_aload_n dRef_colour_8 rfl ?_
    refine go_getf dRef_colour_9 qf_Ref_80 hR.1 rfl ?_
    refine go_iconst (v := 3) dRef_colour_12 (by decide) ?_
    refine go_icmp_eq (tgt := 20) dRef_colour_13 (fun c2 => ?_) (fun c2 => ?_)
    · have c2k : nI α.1.2.1.2.2.2 = 3 := hd.2.2.2.symm.trans c2
      have hcm := hv.1.2.1.2.1 ((nI_inj (b := 3) (by omega) (by omega)).mp c2k)
      refine go_iload_n dRef_colour_20 rfl ?_
      refine go_statP dRef_colour_21 ok_mRef_isByte st_mRef_isByte qm_Ref_89 r_isByte ?_ (hnp := np_mRef_isByte)
      refine go_ifeq_b (tgt := 49) dRef_colour_24 (fun c3 => ?_) (fun c3 => ?_)
      · refine go_iconst (v := 2) dRef_colour_49 (by decide) ?_
        refine go_goto (tgt := 72) dRef_colour_50 ?_
        refine go_putf dRef_colour_72 qf_Ref_59 pw_8_0 hR.1 rfl rfl ?_
        refine go_aload_n dRef_colour_75 rfl ?_
        refine go_getf dRef_colour_76 qf_Ref_59 (pmU_s _ _ _) rfl ?_
        refine go_if_le (tgt := 84) dRef_colour_79 (fun cc => absurd cc (by decide)) (fun _ => ?_)
        refine go_nm (fun hnk2 enk2 => ?_)
        have gsk2 : Sm h hnk2 m 17 := by rw [enk2]; exact (Sm.put' (Sm.refl _ _ _) _ (by omega) (by omega))
        have hRk2 : RfA hnk2 m (upd g 0 2) (A) := ⟨(congrFun enk2 m).trans (pmU_s _ _ _), (congrFun enk2 (m + 1)).trans ((pmU_n _ _ (by omega)).trans hR.2.1), (congrFun enk2 (m + 2)).trans ((pmU_n _ _ (by omega)).trans hR.2.2.1), (congrFun enk2 (m + 3)).trans ((pmU_n _ _ (by omega)).trans hR.2.2.2.1), (congrFun enk2 (m + 4)).trans ((pmU_n _ _ (by omega)).trans hR.2.2.2.2.1), (congrFun enk2 (m + 5)).trans ((pmU_n _ _ (by omega)).trans hR.2.2.2.2.2.1), (congrFun enk2 (m + 6)).trans ((pmU_n _ _ (by omega)).trans hR.2.2.2.2.2.2.1), (congrFun enk2 (m + 7)).trans ((pmU_n _ _ (by omega)).trans hR.2.2.2.2.2.2.2.1), (congrFun enk2 (m + 8)).trans ((pmU_n _ _ (by omega)).trans hR.2.2.2.2.2.2.2.2.1), (congrFun enk2 (m + 9)).trans ((pmU_n _ _ (by omega)).trans hR.2.2.2.2.2.2.2.2.2.1), (congrFun enk2 (m + 10)).trans ((pmU_n _ _ (by omega)).trans hR.2.2.2.2.2.2.2.2.2.2.1), (congrFun enk2 (m + 11)).trans ((pmU_n _ _ (by omega)).trans hR.2.2.2.2.2.2.2.2.2.2.2.1), (congrFun enk2 (m + 12)).trans ((pmU_n _ _ (by omega)).trans hR.2.2.2.2.2.2.2.2.2.2.2.2.1), (congrFun enk2 (m + 13)).trans ((pmU_n _ _ (by omega)).trans hR.2.2.2.2.2.2.2.2.2.2.2.2.2.1), (congrFun enk2 (m + 14)).trans ((pmU_n _ _ (by omega)).trans hR.2.2.2.2.2.2.2.2.2.2.2.2.2.2.1), (congrFun enk2 (m + 15)).trans ((pmU_n _ _ (by omega)).trans hR.2.2.2.2.2.2.2.2.2.2.2.2.2.2.2.1), (congrFun enk2 (m + 16)).trans ((pmU_n _ _ (by omega)).trans hR.2.2.2.2.2.2.2.2.2.2.2.2.2.2.2.2)⟩
        have sk2 := hs.trans gsk2
        refine go_iconst (v := 0) dRef_colour_82 (by decide) ?_
        refine go_iret dRef_colour_83 rfl rfl ?_ (Nat.le_of_ble_eq_true rfl) (Nat.le_of_ble_eq_true rfl)
        exact retR_no (by rw [coF, if_neg (fun q => q ⟨t1, c2k⟩), if_pos (fun q => c3 q.1)]) hRk2 hr rfl sk2
      · refine go_iload_n dRef_colour_27 rfl ?_
        refine go_statP dRef_colour_28 ok_mRef_isByte st_mRef_isByte qm_Ref_89 r_isByte ?_ (hnp := np_mRef_isByte)
        refine go_ifeq_b (tgt := 49) dRef_colour_31 (fun c4 => ?_) (fun c4 => ?_)
        · refine go_iconst (v := 2) dRef_colour_49 (by decide) ?_
          refine go_goto (tgt := 72) dRef_colour_50 ?_
          refine go_putf dRef_colour_72 qf_Ref_59 pw_8_0 hR.1 rfl rfl ?_
          refine go_aload_n dRef_colour_75 rfl ?_
          refine go_getf dRef_colour_76 qf_Ref_59 (pmU_s _ _ _) rfl ?_
          refine go_if_le (tgt := 84) dRef_colour_79 (fun cc => absurd cc (by decide)) (fun _ => ?_)
          refine go_nm (fun hnk3 enk3 => ?_)
          have gsk3 : Sm h hnk3 m 17 := by rw [enk3]; exact (Sm.put' (Sm.refl _ _ _) _ (by omega) (by omega))
          have hRk3 : RfA hnk3 m (upd g 0 2) (A) := ⟨(congrFun enk3 m).trans (pmU_s _ _ _), (congrFun enk3 (m + 1)).trans ((pmU_n _ _ (by omega)).trans hR.2.1), (congrFun enk3 (m + 2)).trans ((pmU_n _ _ (by omega)).trans hR.2.2.1), (congrFun enk3 (m + 3)).trans ((pmU_n _ _ (by omega)).trans hR.2.2.2.1), (congrFun enk3 (m + 4)).trans ((pmU_n _ _ (by omega)).trans hR.2.2.2.2.1), (congrFun enk3 (m + 5)).trans ((pmU_n _ _ (by omega)).trans hR.2.2.2.2.2.1), (congrFun enk3 (m + 6)).trans ((pmU_n _ _ (by omega)).trans hR.2.2.2.2.2.2.1), (congrFun enk3 (m + 7)).trans ((pmU_n _ _ (by omega)).trans hR.2.2.2.2.2.2.2.1), (congrFun enk3 (m + 8)).trans ((pmU_n _ _ (by omega)).trans hR.2.2.2.2.2.2.2.2.1), (congrFun enk3 (m + 9)).trans ((pmU_n _ _ (by omega)).trans hR.2.2.2.2.2.2.2.2.2.1), (congrFun enk3 (m + 10)).trans ((pmU_n _ _ (by omega)).trans hR.2.2.2.2.2.2.2.2.2.2.1), (congrFun enk3 (m + 11)).trans ((pmU_n _ _ (by omega)).trans hR.2.2.2.2.2.2.2.2.2.2.2.1), (congrFun enk3 (m + 12)).trans ((pmU_n _ _ (by omega)).trans hR.2.2.2.2.2.2.2.2.2.2.2.2.1), (congrFun enk3 (m + 13)).trans ((pmU_n _ _ (by omega)).trans hR.2.2.2.2.2.2.2.2.2.2.2.2.2.1), (congrFun enk3 (m + 14)).trans ((pmU_n _ _ (by omega)).trans hR.2.2.2.2.2.2.2.2.2.2.2.2.2.2.1), (congrFun enk3 (m + 15)).trans ((pmU_n _ _ (by omega)).trans hR.2.2.2.2.2.2.2.2.2.2.2.2.2.2.2.1), (congrFun enk3 (m + 16)).trans ((pmU_n _ _ (by omega)).trans hR.2.2.2.2.2.2.2.2.2.2.2.2.2.2.2.2)⟩
          have sk3 := hs.trans gsk3
          refine go_iconst (v := 0) dRef_colour_82 (by decide) ?_
          refine go_iret dRef_colour_83 rfl rfl ?_ (Nat.le_of_ble_eq_true rfl) (Nat.le_of_ble_eq_true rfl)
          exact retR_no (by rw [coF, if_neg (fun q => q ⟨t1, c2k⟩), if_pos (fun q => c4 q.2.1)]) hRk3 hr rfl sk3
        · refine go_iload_n dRef_colour_34 rfl ?_
          refine go_statP dRef_colour_35 ok_mRef_isByte st_mRef_isByte qm_Ref_89 r_isByte ?_ (hnp := np_mRef_isByte)
          refine go_ifeq_b (tgt := 49) dRef_colour_38 (fun c5 => ?_) (fun c5 => ?_)
          · refine go_iconst (v := 2) dRef_colour_49 (by decide) ?_
            refine go_goto (tgt := 72) dRef_colour_50 ?_
            refine go_putf dRef_colour_72 qf_Ref_59 pw_8_0 hR.1 rfl rfl ?_
            refine go_aload_n dRef_colour_75 rfl ?_
            refine go_getf dRef_colour_76 qf_Ref_59 (pmU_s _ _ _) rfl ?_
            refine go_if_le (tgt := 84) dRef_colour_79 (fun cc => absurd cc (by decide)) (fun _ => ?_)
            refine go_nm (fun hnk4 enk4 => ?_)
            have gsk4 : Sm h hnk4 m 17 := by rw [enk4]; exact (Sm.put' (Sm.refl _ _ _) _ (by omega) (by omega))
            have hRk4 : RfA hnk4 m (upd g 0 2) (A) := ⟨(congrFun enk4 m).trans (pmU_s _ _ _), (congrFun enk4 (m + 1)).trans ((pmU_n _ _ (by omega)).trans hR.2.1), (congrFun enk4 (m + 2)).trans ((pmU_n _ _ (by omega)).trans hR.2.2.1), (congrFun enk4 (m + 3)).trans ((pmU_n _ _ (by omega)).trans hR.2.2.2.1), (congrFun enk4 (m + 4)).trans ((pmU_n _ _ (by omega)).trans hR.2.2.2.2.1), (congrFun enk4 (m + 5)).trans ((pmU_n _ _ (by omega)).trans hR.2.2.2.2.2.1), (congrFun enk4 (m + 6)).trans ((pmU_n _ _ (by omega)).trans hR.2.2.2.2.2.2.1), (congrFun enk4 (m + 7)).trans ((pmU_n _ _ (by omega)).trans hR.2.2.2.2.2.2.2.1), (congrFun enk4 (m + 8)).trans ((pmU_n _ _ (by omega)).trans hR.2.2.2.2.2.2.2.2.1), (congrFun enk4 (m + 9)).trans ((pmU_n _ _ (by omega)).trans hR.2.2.2.2.2.2.2.2.2.1), (congrFun enk4 (m + 10)).trans ((pmU_n _ _ (by omega)).trans hR.2.2.2.2.2.2.2.2.2.2.1), (congrFun enk4 (m + 11)).trans ((pmU_n _ _ (by omega)).trans hR.2.2.2.2.2.2.2.2.2.2.2.1), (congrFun enk4 (m + 12)).trans ((pmU_n _ _ (by omega)).trans hR.2.2.2.2.2.2.2.2.2.2.2.2.1), (congrFun enk4 (m + 13)).trans ((pmU_n _ _ (by omega)).trans hR.2.2.2.2.2.2.2.2.2.2.2.2.2.1), (congrFun enk4 (m + 14)).trans ((pmU_n _ _ (by omega)).trans hR.2.2.2.2.2.2.2.2.2.2.2.2.2.2.1), (congrFun enk4 (m + 15)).trans ((pmU_n _ _ (by omega)).trans hR.2.2.2.2.2.2.2.2.2.2.2.2.2.2.2.1), (congrFun enk4 (m + 16)).trans ((pmU_n _ _ (by omega)).trans hR.2.2.2.2.2.2.2.2.2.2.2.2.2.2.2.2)⟩
            have sk4 := hs.trans gsk4
            refine go_iconst (v := 0) dRef_colour_82 (by decide) ?_
            refine go_iret dRef_colour_83 rfl rfl ?_ (Nat.le_of_ble_eq_true rfl) (Nat.le_of_ble_eq_true rfl)
            exact retR_no (by rw [coF, if_neg (fun q => q ⟨t1, c2k⟩), if_pos (fun q => c5 q.2.2.1)]) hRk4 hr rfl sk4
          · refine go_iload dRef_colour_41 rfl ?_
            refine go_statP dRef_colour_43 ok_mRef_isByte st_mRef_isByte qm_Ref_89 r_isByte ?_ (hnp := np_mRef_isByte)
            refine go_ifne_b (tgt := 53) dRef_colour_46 (fun c6 => ?_) (fun c6 => ?_)
            · refine go_aload_n dRef_colour_53 rfl ?_
              refine go_getf dRef_colour_54 qf_Ref_83 hR.1 rfl ?_
              refine go_aload_n dRef_colour_57 rfl ?_
              refine go_getf dRef_colour_58 qf_Ref_77 hR.1 rfl ?_
              refine go_top (y := nI α.1.2.1.2.2.1) (by exact hd.2.2.1) ?_
              refine go_statP dRef_colour_61 ok_mRef_mostEntries st_mRef_mostEntries qm_Ref_93 (r_mostEntries hok.bb) ?_ (hnp := np_mRef_mostEntries)
              refine go_icmp_ne (tgt := 71) dRef_colour_64 (fun c7 => ?_) (fun c7 => ?_)
              · refine go_iconst (v := 0) dRef_colour_71 (by decide) ?_
                refine go_putf dRef_colour_72 qf_Ref_59 pw_8_0 hR.1 rfl rfl ?_
                refine go_aload_n dRef_colour_75 rfl ?_
                refine go_getf dRef_colour_76 qf_Ref_59 (pmU_s _ _ _) rfl ?_
                refine go_if_le (tgt := 84) dRef_colour_79 (fun _ => ?_) (fun cc => absurd (by decide) cc)
                have hlt : α.1.2.2.2.1.2 < 64 := Nat.lt_of_lt_of_le (Nat.lt_of_le_of_ne hcm fun q => c7 (by rw [ho.2.2.1.1, q])) (Nat.min_le_left _ _)
                refine go_aload_n dRef_colour_84 rfl ?_
                refine go_getf dRef_colour_85 qf_Ref_13 (pmU_s _ _ _) rfl ?_
                refine go_iconst (v := 4) dRef_colour_88 (by decide) ?_
                refine go_aload_n dRef_colour_89 rfl ?_
                refine go_getf dRef_colour_90 qf_Ref_83 (pmU_s _ _ _) rfl ?_
                refine go_imul dRef_colour_93 ?_
                refine go_top (y := nI (4 * α.1.2.2.2.1.2)) (by rw [ho.2.2.1.1, show (4 : Int32) = nI 4 from rfl, pk_mul]) ?_
                refine go_iload_n dRef_colour_94 rfl ?_
                refine go_iast dRef_colour_95 ((pmU_n _ _ (by omega)).trans hR.2.2.1) (by exact vp_in_nI (by omega) (by omega)) (nI_clamp (by omega)) ?_
                refine go_aload_n dRef_colour_96 rfl ?_
                refine go_getf dRef_colour_97 qf_Ref_13 ((pmU_n _ _ (by omega)).trans (pmU_s _ _ _)) rfl ?_
                refine go_iconst (v := 4) dRef_colour_100 (by decide) ?_
                refine go_aload_n dRef_colour_101 rfl ?_
                refine go_getf dRef_colour_102 qf_Ref_83 ((pmU_n _ _ (by omega)).trans (pmU_s _ _ _)) rfl ?_
                refine go_imul dRef_colour_105 ?_
                refine go_iconst (v := 1) dRef_colour_106 (by decide) ?_
                refine go_iadd dRef_colour_107 ?_
                refine go_top (y := nI (4 * α.1.2.2.2.1.2 + 1)) (by rw [ho.2.2.1.1, show (4 : Int32) = nI 4 from rfl, pk_mul, show (1 : Int32) = nI 1 from rfl, nI_add]) ?_
                refine go_iload_n dRef_colour_108 rfl ?_
                refine go_iast dRef_colour_109 (pmU_s _ _ _) (by exact vp_in_nI (by omega) (by omega)) (nI_clamp (by omega)) ?_
                refine go_aload_n dRef_colour_110 rfl ?_
                refine go_getf dRef_colour_111 qf_Ref_13 ((pmU_n _ _ (by omega)).trans ((pmU_n _ _ (by omega)).trans (pmU_s _ _ _))) rfl ?_
                refine go_iconst (v := 4) dRef_colour_114 (by decide) ?_
                refine go_aload_n dRef_colour_115 rfl ?_
                refine go_getf dRef_colour_116 qf_Ref_83 ((pmU_n _ _ (by omega)).trans ((pmU_n _ _ (by omega)).trans (pmU_s _ _ _))) rfl ?_
                refine go_imul dRef_colour_119 ?_
                refine go_iconst (v := 2) dRef_colour_120 (by decide) ?_
                refine go_iadd dRef_colour_121 ?_
                refine go_top (y := nI (4 * α.1.2.2.2.1.2 + 2)) (by rw [ho.2.2.1.1, show (4 : Int32) = nI 4 from rfl, pk_mul, show (2 : Int32) = nI 2 from rfl, nI_add]) ?_
                refine go_iload_n dRef_colour_122 rfl ?_
                refine go_iast dRef_colour_123 (pmU_s _ _ _) (by exact vp_in_nI (by omega) (by omega)) (nI_clamp (by omega)) ?_
                refine go_aload_n dRef_colour_124 rfl ?_
                refine go_getf dRef_colour_125 qf_Ref_13 ((pmU_n _ _ (by omega)).trans ((pmU_n _ _ (by omega)).trans ((pmU_n _ _ (by omega)).trans (pmU_s _ _ _)))) rfl ?_
                refine go_iconst (v := 4) dRef_colour_128 (by decide) ?_
                refine go_aload_n dRef_colour_129 rfl ?_
                refine go_getf dRef_colour_130 qf_Ref_83 ((pmU_n _ _ (by omega)).trans ((pmU_n _ _ (by omega)).trans ((pmU_n _ _ (by omega)).trans (pmU_s _ _ _)))) rfl ?_
                refine go_imul dRef_colour_133 ?_
                refine go_iconst (v := 3) dRef_colour_134 (by decide) ?_
                refine go_iadd dRef_colour_135 ?_
                refine go_top (y := nI (4 * α.1.2.2.2.1.2 + 3)) (by rw [ho.2.2.1.1, show (4 : Int32) = nI 4 from rfl, pk_mul, show (3 : Int32) = nI 3 from rfl, nI_add]) ?_
                refine go_iload dRef_colour_136 rfl ?_
                refine go_iast dRef_colour_138 (pmU_s _ _ _) (by exact vp_in_nI (by omega) (by omega)) (nI_clamp (by omega)) ?_
                refine go_aload_n dRef_colour_139 rfl ?_
                refine go_dup dRef_colour_140 rfl ?_
                refine go_getf dRef_colour_141 qf_Ref_83 ((pmU_n _ _ (by omega)).trans ((pmU_n _ _ (by omega)).trans ((pmU_n _ _ (by omega)).trans ((pmU_n _ _ (by omega)).trans (pmU_s _ _ _))))) rfl ?_
                refine go_iconst (v := 1) dRef_colour_144 (by decide) ?_
                refine go_iadd dRef_colour_145 ?_
                refine go_putf dRef_colour_146 qf_Ref_83 pw_8_7 ((pmU_n _ _ (by omega)).trans ((pmU_n _ _ (by omega)).trans ((pmU_n _ _ (by omega)).trans ((pmU_n _ _ (by omega)).trans (pmU_s _ _ _))))) rfl rfl ?_
                refine go_nm (fun hnk5 enk5 => ?_)
                have gsk5 : Sm h hnk5 m 17 := by rw [enk5]; exact (Sm.put' (Sm.put' (Sm.put' (Sm.put' (Sm.put' (Sm.put' (Sm.refl _ _ _) _ (by omega) (by omega)) _ (by omega) (by omega)) _ (by omega) (by omega)) _ (by omega) (by omega)) _ (by omega) (by omega)) _ (by omega) (by omega))
                have hRk5 : RfA hnk5 m (upd (upd g 0 0) 7 (g 7 + 1)) (uA A 1 (upd (upd (upd (upd (A 1) (4 * α.1.2.2.2.1.2) a1) (4 * α.1.2.2.2.1.2 + 1) a2) (4 * α.1.2.2.2.1.2 + 2) a3) (4 * α.1.2.2.2.1.2 + 3) a4)) := ⟨(congrFun enk5 m).trans (pmU_s _ _ _), (congrFun enk5 (m + 1)).trans ((pmU_n _ _ (by omega)).trans ((pmU_n _ _ (by omega)).trans ((pmU_n _ _ (by omega)).trans ((pmU_n _ _ (by omega)).trans ((pmU_n _ _ (by omega)).trans ((pmU_n _ _ (by omega)).trans hR.2.1)))))), (congrFun enk5 (m + 2)).trans ((pmU_n _ _ (by omega)).trans (pmU_s _ _ _)), (congrFun enk5 (m + 3)).trans ((pmU_n _ _ (by omega)).trans ((pmU_n _ _ (by omega)).trans ((pmU_n _ _ (by omega)).trans ((pmU_n _ _ (by omega)).trans ((pmU_n _ _ (by omega)).trans ((pmU_n _ _ (by omega)).trans hR.2.2.2.1)))))), (congrFun enk5 (m + 4)).trans ((pmU_n _ _ (by omega)).trans ((pmU_n _ _ (by omega)).trans ((pmU_n _ _ (by omega)).trans ((pmU_n _ _ (by omega)).trans ((pmU_n _ _ (by omega)).trans ((pmU_n _ _ (by omega)).trans hR.2.2.2.2.1)))))), (congrFun enk5 (m + 5)).trans ((pmU_n _ _ (by omega)).trans ((pmU_n _ _ (by omega)).trans ((pmU_n _ _ (by omega)).trans ((pmU_n _ _ (by omega)).trans ((pmU_n _ _ (by omega)).trans ((pmU_n _ _ (by omega)).trans hR.2.2.2.2.2.1)))))), (congrFun enk5 (m + 6)).trans ((pmU_n _ _ (by omega)).trans ((pmU_n _ _ (by omega)).trans ((pmU_n _ _ (by omega)).trans ((pmU_n _ _ (by omega)).trans ((pmU_n _ _ (by omega)).trans ((pmU_n _ _ (by omega)).trans hR.2.2.2.2.2.2.1)))))), (congrFun enk5 (m + 7)).trans ((pmU_n _ _ (by omega)).trans ((pmU_n _ _ (by omega)).trans ((pmU_n _ _ (by omega)).trans ((pmU_n _ _ (by omega)).trans ((pmU_n _ _ (by omega)).trans ((pmU_n _ _ (by omega)).trans hR.2.2.2.2.2.2.2.1)))))), (congrFun enk5 (m + 8)).trans ((pmU_n _ _ (by omega)).trans ((pmU_n _ _ (by omega)).trans ((pmU_n _ _ (by omega)).trans ((pmU_n _ _ (by omega)).trans ((pmU_n _ _ (by omega)).trans ((pmU_n _ _ (by omega)).trans hR.2.2.2.2.2.2.2.2.1)))))), (congrFun enk5 (m + 9)).trans ((pmU_n _ _ (by omega)).trans ((pmU_n _ _ (by omega)).trans ((pmU_n _ _ (by omega)).trans ((pmU_n _ _ (by omega)).trans ((pmU_n _ _ (by omega)).trans ((pmU_n _ _ (by omega)).trans hR.2.2.2.2.2.2.2.2.2.1)))))), (congrFun enk5 (m + 10)).trans ((pmU_n _ _ (by omega)).trans ((pmU_n _ _ (by omega)).trans ((pmU_n _ _ (by omega)).trans ((pmU_n _ _ (by omega)).trans ((pmU_n _ _ (by omega)).trans ((pmU_n _ _ (by omega)).trans hR.2.2.2.2.2.2.2.2.2.2.1)))))), (congrFun enk5 (m + 11)).trans ((pmU_n _ _ (by omega)).trans ((pmU_n _ _ (by omega)).trans ((pmU_n _ _ (by omega)).trans ((pmU_n _ _ (by omega)).trans ((pmU_n _ _ (by omega)).trans ((pmU_n _ _ (by omega)).trans hR.2.2.2.2.2.2.2.2.2.2.2.1)))))), (congrFun enk5 (m + 12)).trans ((pmU_n _ _ (by omega)).trans ((pmU_n _ _ (by omega)).trans ((pmU_n _ _ (by omega)).trans ((pmU_n _ _ (by omega)).trans ((pmU_n _ _ (by omega)).trans ((pmU_n _ _ (by omega)).trans hR.2.2.2.2.2.2.2.2.2.2.2.2.1)))))), (congrFun enk5 (m + 13)).trans ((pmU_n _ _ (by omega)).trans ((pmU_n _ _ (by omega)).trans ((pmU_n _ _ (by omega)).trans ((pmU_n _ _ (by omega)).trans ((pmU_n _ _ (by omega)).trans ((pmU_n _ _ (by omega)).trans hR.2.2.2.2.2.2.2.2.2.2.2.2.2.1)))))), (congrFun enk5 (m + 14)).trans ((pmU_n _ _ (by omega)).trans ((pmU_n _ _ (by omega)).trans ((pmU_n _ _ (by omega)).trans ((pmU_n _ _ (by omega)).trans ((pmU_n _ _ (by omega)).trans ((pmU_n _ _ (by omega)).trans hR.2.2.2.2.2.2.2.2.2.2.2.2.2.2.1)))))), (congrFun enk5 (m + 15)).trans ((pmU_n _ _ (by omega)).trans ((pmU_n _ _ (by omega)).trans ((pmU_n _ _ (by omega)).trans ((pmU_n _ _ (by omega)).trans ((pmU_n _ _ (by omega)).trans ((pmU_n _ _ (by omega)).trans hR.2.2.2.2.2.2.2.2.2.2.2.2.2.2.2.1)))))), (congrFun enk5 (m + 16)).trans ((pmU_n _ _ (by omega)).trans ((pmU_n _ _ (by omega)).trans ((pmU_n _ _ (by omega)).trans ((pmU_n _ _ (by omega)).trans ((pmU_n _ _ (by omega)).trans ((pmU_n _ _ (by omega)).trans hR.2.2.2.2.2.2.2.2.2.2.2.2.2.2.2.2))))))⟩
                have sk5 := hs.trans gsk5
                refine go_aload_n dRef_colour_149 rfl ?_
                refine go_virtX dRef_colour_150 ok_mRef_change im_mRef_change se_mRef_change qm_Ref_97 hRk5.1 (r_change (g := upd (upd g 0 0) 7 (g 7 + 1)) (A := uA A 1 (upd (upd (upd (upd (A 1) (4 * α.1.2.2.2.1.2) a1) (4 * α.1.2.2.2.1.2 + 1) a2) (4 * α.1.2.2.2.1.2 + 2) a3) (4 * α.1.2.2.2.1.2 + 3) a4)) (e := α.1.2.2.2.2.2) ho.2.2.2.1 hx6 ho.2.2.2.2 (fun k hk => (hv.1.2.2.1.2 k hk).1) hRk5) (fun hx8 d8 q8 => ?_) (hnp := np_mRef_change)
                obtain ⟨⟨fl, fs, fb, hR8, hE9⟩, t8⟩ := q8
                have s8 := sk5.trans t8
                refine go_aload_n dRef_colour_153 rfl ?_
                refine go_getf dRef_colour_154 qf_Ref_83 hR8.1 rfl ?_
                refine go_top (y := nI (α.1.2.2.2.1.2 + 1)) (by show g 7 + 1 = _; rw [ho.2.2.1.1]; exact nI_a1 _) ?_
                refine go_iret dRef_colour_157 rfl rfl ?_ (Nat.le_of_ble_eq_true rfl) (Nat.le_of_ble_eq_true rfl)
                exact retR_ok (β := ((α.1.1, piSafe (α.1.2.1, α.1.2.2.1, plA α.1.2.2.2.1 a1 a2 a3 a4, α.1.2.2.2.2)), α.2)) (by rw [coF, if_neg (fun q => q ⟨t1, c2k⟩), if_neg (fun q => q ⟨c3, c4, c5, c6⟩), if_neg (fun q => c7 (ho.2.2.1.1.trans (congrArg nI (Nat.le_antisymm hcm q))))]) hR8 ⟨⟨ho.1, ho.2.1, ⟨by show g 7 + 1 = _; rw [ho.2.2.1.1]; exact nI_a1 _, plA_ag ho.2.2.1.2⟩, ⟨rfl, hE9⟩⟩, hr.2.1, hr.2.2.1, hr.2.2.2⟩ rfl s8
              · refine go_iconst (v := 3) dRef_colour_67 (by decide) ?_
                refine go_goto (tgt := 72) dRef_colour_68 ?_
                refine go_putf dRef_colour_72 qf_Ref_59 pw_8_0 hR.1 rfl rfl ?_
                refine go_aload_n dRef_colour_75 rfl ?_
                refine go_getf dRef_colour_76 qf_Ref_59 (pmU_s _ _ _) rfl ?_
                refine go_if_le (tgt := 84) dRef_colour_79 (fun cc => absurd cc (by decide)) (fun _ => ?_)
                refine go_nm (fun hnk6 enk6 => ?_)
                have gsk6 : Sm h hnk6 m 17 := by rw [enk6]; exact (Sm.put' (Sm.refl _ _ _) _ (by omega) (by omega))
                have hRk6 : RfA hnk6 m (upd g 0 3) (A) := ⟨(congrFun enk6 m).trans (pmU_s _ _ _), (congrFun enk6 (m + 1)).trans ((pmU_n _ _ (by omega)).trans hR.2.1), (congrFun enk6 (m + 2)).trans ((pmU_n _ _ (by omega)).trans hR.2.2.1), (congrFun enk6 (m + 3)).trans ((pmU_n _ _ (by omega)).trans hR.2.2.2.1), (congrFun enk6 (m + 4)).trans ((pmU_n _ _ (by omega)).trans hR.2.2.2.2.1), (congrFun enk6 (m + 5)).trans ((pmU_n _ _ (by omega)).trans hR.2.2.2.2.2.1), (congrFun enk6 (m + 6)).trans ((pmU_n _ _ (by omega)).trans hR.2.2.2.2.2.2.1), (congrFun enk6 (m + 7)).trans ((pmU_n _ _ (by omega)).trans hR.2.2.2.2.2.2.2.1), (congrFun enk6 (m + 8)).trans ((pmU_n _ _ (by omega)).trans hR.2.2.2.2.2.2.2.2.1), (congrFun enk6 (m + 9)).trans ((pmU_n _ _ (by omega)).trans hR.2.2.2.2.2.2.2.2.2.1), (congrFun enk6 (m + 10)).trans ((pmU_n _ _ (by omega)).trans hR.2.2.2.2.2.2.2.2.2.2.1), (congrFun enk6 (m + 11)).trans ((pmU_n _ _ (by omega)).trans hR.2.2.2.2.2.2.2.2.2.2.2.1), (congrFun enk6 (m + 12)).trans ((pmU_n _ _ (by omega)).trans hR.2.2.2.2.2.2.2.2.2.2.2.2.1), (congrFun enk6 (m + 13)).trans ((pmU_n _ _ (by omega)).trans hR.2.2.2.2.2.2.2.2.2.2.2.2.2.1), (congrFun enk6 (m + 14)).trans ((pmU_n _ _ (by omega)).trans hR.2.2.2.2.2.2.2.2.2.2.2.2.2.2.1), (congrFun enk6 (m + 15)).trans ((pmU_n _ _ (by omega)).trans hR.2.2.2.2.2.2.2.2.2.2.2.2.2.2.2.1), (congrFun enk6 (m + 16)).trans ((pmU_n _ _ (by omega)).trans hR.2.2.2.2.2.2.2.2.2.2.2.2.2.2.2.2)⟩
                have sk6 := hs.trans gsk6
                refine go_iconst (v := 0) dRef_colour_82 (by decide) ?_
                refine go_iret dRef_colour_83 rfl rfl ?_ (Nat.le_of_ble_eq_true rfl) (Nat.le_of_ble_eq_true rfl)
                exact retR_no (by rw [coF, if_neg (fun q => q ⟨t1, c2k⟩), if_neg (fun q => q ⟨c3, c4, c5, c6⟩), if_pos (Nat.le_of_eq ((nI_inj (by omega) (by omega)).mp (c7.symm.trans ho.2.2.1.1)))]) hRk6 hr rfl sk6
            · refine go_iconst (v := 2) dRef_colour_49 (by decide) ?_
              refine go_goto (tgt := 72) dRef_colour_50 ?_
              refine go_putf dRef_colour_72 qf_Ref_59 pw_8_0 hR.1 rfl rfl ?_
              refine go_aload_n dRef_colour_75 rfl ?_
              refine go_getf dRef_colour_76 qf_Ref_59 (pmU_s _ _ _) rfl ?_
              refine go_if_le (tgt := 84) dRef_colour_79 (fun cc => absurd cc (by decide)) (fun _ => ?_)
              refine go_nm (fun hnk7 enk7 => ?_)
              have gsk7 : Sm h hnk7 m 17 := by rw [enk7]; exact (Sm.put' (Sm.refl _ _ _) _ (by omega) (by omega))
              have hRk7 : RfA hnk7 m (upd g 0 2) (A) := ⟨(congrFun enk7 m).trans (pmU_s _ _ _), (congrFun enk7 (m + 1)).trans ((pmU_n _ _ (by omega)).trans hR.2.1), (congrFun enk7 (m + 2)).trans ((pmU_n _ _ (by omega)).trans hR.2.2.1), (congrFun enk7 (m + 3)).trans ((pmU_n _ _ (by omega)).trans hR.2.2.2.1), (congrFun enk7 (m + 4)).trans ((pmU_n _ _ (by omega)).trans hR.2.2.2.2.1), (congrFun enk7 (m + 5)).trans ((pmU_n _ _ (by omega)).trans hR.2.2.2.2.2.1), (congrFun enk7 (m + 6)).trans ((pmU_n _ _ (by omega)).trans hR.2.2.2.2.2.2.1), (congrFun enk7 (m + 7)).trans ((pmU_n _ _ (by omega)).trans hR.2.2.2.2.2.2.2.1), (congrFun enk7 (m + 8)).trans ((pmU_n _ _ (by omega)).trans hR.2.2.2.2.2.2.2.2.1), (congrFun enk7 (m + 9)).trans ((pmU_n _ _ (by omega)).trans hR.2.2.2.2.2.2.2.2.2.1), (congrFun enk7 (m + 10)).trans ((pmU_n _ _ (by omega)).trans hR.2.2.2.2.2.2.2.2.2.2.1), (congrFun enk7 (m + 11)).trans ((pmU_n _ _ (by omega)).trans hR.2.2.2.2.2.2.2.2.2.2.2.1), (congrFun enk7 (m + 12)).trans ((pmU_n _ _ (by omega)).trans hR.2.2.2.2.2.2.2.2.2.2.2.2.1), (congrFun enk7 (m + 13)).trans ((pmU_n _ _ (by omega)).trans hR.2.2.2.2.2.2.2.2.2.2.2.2.2.1), (congrFun enk7 (m + 14)).trans ((pmU_n _ _ (by omega)).trans hR.2.2.2.2.2.2.2.2.2.2.2.2.2.2.1), (congrFun enk7 (m + 15)).trans ((pmU_n _ _ (by omega)).trans hR.2.2.2.2.2.2.2.2.2.2.2.2.2.2.2.1), (congrFun enk7 (m + 16)).trans ((pmU_n _ _ (by omega)).trans hR.2.2.2.2.2.2.2.2.2.2.2.2.2.2.2.2)⟩
              have sk7 := hs.trans gsk7
              refine go_iconst (v := 0) dRef_colour_82 (by decide) ?_
              refine go_iret dRef_colour_83 rfl rfl ?_ (Nat.le_of_ble_eq_true rfl) (Nat.le_of_ble_eq_true rfl)
              exact retR_no (by rw [coF, if_neg (fun q => q ⟨t1, c2k⟩), if_pos (fun q => c6 q.2.2.2)]) hRk7 hr rfl sk7
    · refine go_iconst (v := 1) dRef_colour_16 (by decide) ?_
      refine go_goto (tgt := 72) dRef_colour_17 ?_
      refine go_putf dRef_colour_72 qf_Ref_59 pw_8_0 hR.1 rfl rfl ?_
      refine go_aload_n dRef_colour_75 rfl ?_
      refine go_getf dRef_colour_76 qf_Ref_59 (pmU_s _ _ _) rfl ?_
      refine go_if_le (tgt := 84) dRef_colour_79 (fun cc => absurd cc (by decide)) (fun _ => ?_)
      refine go_nm (fun hnk8 enk8 => ?_)
      have gsk8 : Sm h hnk8 m 17 := by rw [enk8]; exact (Sm.put' (Sm.refl _ _ _) _ (by omega) (by omega))
      have hRk8 : RfA hnk8 m (upd g 0 1) (A) := ⟨(congrFun enk8 m).trans (pmU_s _ _ _), (congrFun enk8 (m + 1)).trans ((pmU_n _ _ (by omega)).trans hR.2.1), (congrFun enk8 (m + 2)).trans ((pmU_n _ _ (by omega)).trans hR.2.2.1), (congrFun enk8 (m + 3)).trans ((pmU_n _ _ (by omega)).trans hR.2.2.2.1), (congrFun enk8 (m + 4)).trans ((pmU_n _ _ (by omega)).trans hR.2.2.2.2.1), (congrFun enk8 (m + 5)).trans ((pmU_n _ _ (by omega)).trans hR.2.2.2.2.2.1), (congrFun enk8 (m + 6)).trans ((pmU_n _ _ (by omega)).trans hR.2.2.2.2.2.2.1), (congrFun enk8 (m + 7)).trans ((pmU_n _ _ (by omega)).trans hR.2.2.2.2.2.2.2.1), (congrFun enk8 (m + 8)).trans ((pmU_n _ _ (by omega)).trans hR.2.2.2.2.2.2.2.2.1), (congrFun enk8 (m + 9)).trans ((pmU_n _ _ (by omega)).trans hR.2.2.2.2.2.2.2.2.2.1), (congrFun enk8 (m + 10)).trans ((pmU_n _ _ (by omega)).trans hR.2.2.2.2.2.2.2.2.2.2.1), (congrFun enk8 (m + 11)).trans ((pmU_n _ _ (by omega)).trans hR.2.2.2.2.2.2.2.2.2.2.2.1), (congrFun enk8 (m + 12)).trans ((pmU_n _ _ (by omega)).trans hR.2.2.2.2.2.2.2.2.2.2.2.2.1), (congrFun enk8 (m + 13)).trans ((pmU_n _ _ (by omega)).trans hR.2.2.2.2.2.2.2.2.2.2.2.2.2.1), (congrFun enk8 (m + 14)).trans ((pmU_n _ _ (by omega)).trans hR.2.2.2.2.2.2.2.2.2.2.2.2.2.2.1), (congrFun enk8 (m + 15)).trans ((pmU_n _ _ (by omega)).trans hR.2.2.2.2.2.2.2.2.2.2.2.2.2.2.2.1), (congrFun enk8 (m + 16)).trans ((pmU_n _ _ (by omega)).trans hR.2.2.2.2.2.2.2.2.2.2.2.2.2.2.2.2)⟩
      have sk8 := hs.trans gsk8
      refine go_iconst (v := 0) dRef_colour_82 (by decide) ?_
      refine go_iret dRef_colour_83 rfl rfl ?_ (Nat.le_of_ble_eq_true rfl) (Nat.le_of_ble_eq_true rfl)
      exact retR_no (by rw [coF, if_pos (fun q => c2 (hd.2.2.2.trans q.2))]) hRk8 hr rfl sk8
set_option maxHeartbeats 4000000 in
theorem r_put {E : pmEv} {h : pmH} {m : Nat} {g : Nat → Int32} {A : Nat → Nat → Int32} {α : aPF} {a1 a2 a3 a4 : Int32} (hR : RfA h m g A) (hr : RR g A α) (hv : IvA α) : Call E mRef_put [.ref m, .int a1, .int a2, .int a3, .int a4] h none 0 0 (RetR m h [1, 3, 2] (some (.int 0)) (puF α a1 a2 a3 a4)) := by
  have hs : Sm h h m 17 := Sm.refl _ _ _
  have ho := hr.1
  have ht : g 1 = 0 ↔ ¬ α.1.1 = true := by rw [ho.1]; exact bI_0
  have hok := hv.1.1
  have hb := hok.b
  have hkk := hok.k
  have hwh := hok.w
  have hch := chN_le α.1.2.1.2.2.2
  have hc64 := hv.1.2.1.1
  have hx6 := hv.1.2.2.1.1
  refine call_of (L := [some (.ref m), some (.int a1), some (.int a2), some (.int a3), some (.int a4), none, none]) ok_mRef_put (Nat.le_of_ble_eq_true rfl) ?_
  refine go_aload_n dRef_put_0 rfl ?_
  refine go_aload_n dRef_put_1 rfl ?_
  refine go_getf dRef_put_2 qf_Ref_67 hR.1 rfl ?_
  refine go_if_ne (tgt := 12) dRef_put_5 (fun c1 => ?_) (fun c1 => ?_)
  · have t1 : α.1.1 = true := Decidable.not_not.mp fun q => c1 (ht.mpr q)
    have hd := (ho.2.1 t1).1
    refine go_iload_n dRef_put_12 rfl ?_
    refine go_if_lt (tgt := 51) dRef_put_13 (fun c2 => ?_) (fun c2 => ?_)
    · refine go_iconst (v := 2) dRef_put_51 (by decide) ?_
      refine go_goto (tgt := 93) dRef_put_52 ?_
      refine go_putf dRef_put_93 qf_Ref_59 pw_8_0 hR.1 rfl rfl ?_
      refine go_aload_n dRef_put_96 rfl ?_
      refine go_getf dRef_put_97 qf_Ref_59 (pmU_s _ _ _) rfl ?_
      refine go_if_le (tgt := 105) dRef_put_100 (fun cc => absurd cc (by decide)) (fun _ => ?_)
      refine go_nm (fun hnk1 enk1 => ?_)
      have gsk1 : Sm h hnk1 m 17 := by rw [enk1]; exact (Sm.put' (Sm.refl _ _ _) _ (by omega) (by omega))
      have hRk1 : RfA hnk1 m (upd g 0 2) (A) := ⟨(congrFun enk1 m).trans (pmU_s _ _ _), (congrFun enk1 (m + 1)).trans ((pmU_n _ _ (by omega)).trans hR.2.1), (congrFun enk1 (m + 2)).trans ((pmU_n _ _ (by omega)).trans hR.2.2.1), (congrFun enk1 (m + 3)).trans ((pmU_n _ _ (by omega)).trans hR.2.2.2.1), (congrFun enk1 (m + 4)).trans ((pmU_n _ _ (by omega)).trans hR.2.2.2.2.1), (congrFun enk1 (m + 5)).trans ((pmU_n _ _ (by omega)).trans hR.2.2.2.2.2.1), (congrFun enk1 (m + 6)).trans ((pmU_n _ _ (by omega)).trans hR.2.2.2.2.2.2.1), (congrFun enk1 (m + 7)).trans ((pmU_n _ _ (by omega)).trans hR.2.2.2.2.2.2.2.1), (congrFun enk1 (m + 8)).trans ((pmU_n _ _ (by omega)).trans hR.2.2.2.2.2.2.2.2.1), (congrFun enk1 (m + 9)).trans ((pmU_n _ _ (by omega)).trans hR.2.2.2.2.2.2.2.2.2.1), (congrFun enk1 (m + 10)).trans ((pmU_n _ _ (by omega)).trans hR.2.2.2.2.2.2.2.2.2.2.1), (congrFun enk1 (m + 11)).trans ((pmU_n _ _ (by omega)).trans hR.2.2.2.2.2.2.2.2.2.2.2.1), (congrFun enk1 (m + 12)).trans ((pmU_n _ _ (by omega)).trans hR.2.2.2.2.2.2.2.2.2.2.2.2.1), (congrFun enk1 (m + 13)).trans ((pmU_n _ _ (by omega)).trans hR.2.2.2.2.2.2.2.2.2.2.2.2.2.1), (congrFun enk1 (m + 14)).trans ((pmU_n _ _ (by omega)).trans hR.2.2.2.2.2.2.2.2.2.2.2.2.2.2.1), (congrFun enk1 (m + 15)).trans ((pmU_n _ _ (by omega)).trans hR.2.2.2.2.2.2.2.2.2.2.2.2.2.2.2.1), (congrFun enk1 (m + 16)).trans ((pmU_n _ _ (by omega)).trans hR.2.2.2.2.2.2.2.2.2.2.2.2.2.2.2.2)⟩
      have sk1 := hs.trans gsk1
      refine go_iconst (v := 0) dRef_put_103 (by decide) ?_
      refine go_iret dRef_put_104 rfl rfl ?_ (Nat.le_of_ble_eq_true rfl) (Nat.le_of_ble_eq_true rfl)
      exact retR_no (by rw [puF, if_neg (fun q => q t1), if_pos (fun q => absurd q.1.1 (Int32.not_le.mpr c2))]) hRk1 hr rfl sk1
    · refine go_iload_n dRef_put_16 rfl ?_
      refine go_aload_n dRef_put_17 rfl ?_
      refine go_getf dRef_put_18 qf_Ref_71 hR.1 rfl ?_
      refine go_top (y := nI α.1.2.1.1) (by exact hd.1) ?_
      refine go_icmp_ge (tgt := 51) dRef_put_21 (fun c3 => ?_) (fun c3 => ?_)
      · refine go_iconst (v := 2) dRef_put_51 (by decide) ?_
        refine go_goto (tgt := 93) dRef_put_52 ?_
        refine go_putf dRef_put_93 qf_Ref_59 pw_8_0 hR.1 rfl rfl ?_
        refine go_aload_n dRef_put_96 rfl ?_
        refine go_getf dRef_put_97 qf_Ref_59 (pmU_s _ _ _) rfl ?_
        refine go_if_le (tgt := 105) dRef_put_100 (fun cc => absurd cc (by decide)) (fun _ => ?_)
        refine go_nm (fun hnk2 enk2 => ?_)
        have gsk2 : Sm h hnk2 m 17 := by rw [enk2]; exact (Sm.put' (Sm.refl _ _ _) _ (by omega) (by omega))
        have hRk2 : RfA hnk2 m (upd g 0 2) (A) := ⟨(congrFun enk2 m).trans (pmU_s _ _ _), (congrFun enk2 (m + 1)).trans ((pmU_n _ _ (by omega)).trans hR.2.1), (congrFun enk2 (m + 2)).trans ((pmU_n _ _ (by omega)).trans hR.2.2.1), (congrFun enk2 (m + 3)).trans ((pmU_n _ _ (by omega)).trans hR.2.2.2.1), (congrFun enk2 (m + 4)).trans ((pmU_n _ _ (by omega)).trans hR.2.2.2.2.1), (congrFun enk2 (m + 5)).trans ((pmU_n _ _ (by omega)).trans hR.2.2.2.2.2.1), (congrFun enk2 (m + 6)).trans ((pmU_n _ _ (by omega)).trans hR.2.2.2.2.2.2.1), (congrFun enk2 (m + 7)).trans ((pmU_n _ _ (by omega)).trans hR.2.2.2.2.2.2.2.1), (congrFun enk2 (m + 8)).trans ((pmU_n _ _ (by omega)).trans hR.2.2.2.2.2.2.2.2.1), (congrFun enk2 (m + 9)).trans ((pmU_n _ _ (by omega)).trans hR.2.2.2.2.2.2.2.2.2.1), (congrFun enk2 (m + 10)).trans ((pmU_n _ _ (by omega)).trans hR.2.2.2.2.2.2.2.2.2.2.1), (congrFun enk2 (m + 11)).trans ((pmU_n _ _ (by omega)).trans hR.2.2.2.2.2.2.2.2.2.2.2.1), (congrFun enk2 (m + 12)).trans ((pmU_n _ _ (by omega)).trans hR.2.2.2.2.2.2.2.2.2.2.2.2.1), (congrFun enk2 (m + 13)).trans ((pmU_n _ _ (by omega)).trans hR.2.2.2.2.2.2.2.2.2.2.2.2.2.1), (congrFun enk2 (m + 14)).trans ((pmU_n _ _ (by omega)).trans hR.2.2.2.2.2.2.2.2.2.2.2.2.2.2.1), (congrFun enk2 (m + 15)).trans ((pmU_n _ _ (by omega)).trans hR.2.2.2.2.2.2.2.2.2.2.2.2.2.2.2.1), (congrFun enk2 (m + 16)).trans ((pmU_n _ _ (by omega)).trans hR.2.2.2.2.2.2.2.2.2.2.2.2.2.2.2.2)⟩
        have sk2 := hs.trans gsk2
        refine go_iconst (v := 0) dRef_put_103 (by decide) ?_
        refine go_iret dRef_put_104 rfl rfl ?_ (Nat.le_of_ble_eq_true rfl) (Nat.le_of_ble_eq_true rfl)
        exact retR_no (by rw [puF, if_neg (fun q => q t1), if_pos (fun q => absurd q.1.2 (Int32.not_lt.mpr c3))]) hRk2 hr rfl sk2
      · refine go_iload_n dRef_put_24 rfl ?_
        refine go_if_lt (tgt := 51) dRef_put_25 (fun c4 => ?_) (fun c4 => ?_)
        · refine go_iconst (v := 2) dRef_put_51 (by decide) ?_
          refine go_goto (tgt := 93) dRef_put_52 ?_
          refine go_putf dRef_put_93 qf_Ref_59 pw_8_0 hR.1 rfl rfl ?_
          refine go_aload_n dRef_put_96 rfl ?_
          refine go_getf dRef_put_97 qf_Ref_59 (pmU_s _ _ _) rfl ?_
          refine go_if_le (tgt := 105) dRef_put_100 (fun cc => absurd cc (by decide)) (fun _ => ?_)
          refine go_nm (fun hnk3 enk3 => ?_)
          have gsk3 : Sm h hnk3 m 17 := by rw [enk3]; exact (Sm.put' (Sm.refl _ _ _) _ (by omega) (by omega))
          have hRk3 : RfA hnk3 m (upd g 0 2) (A) := ⟨(congrFun enk3 m).trans (pmU_s _ _ _), (congrFun enk3 (m + 1)).trans ((pmU_n _ _ (by omega)).trans hR.2.1), (congrFun enk3 (m + 2)).trans ((pmU_n _ _ (by omega)).trans hR.2.2.1), (congrFun enk3 (m + 3)).trans ((pmU_n _ _ (by omega)).trans hR.2.2.2.1), (congrFun enk3 (m + 4)).trans ((pmU_n _ _ (by omega)).trans hR.2.2.2.2.1), (congrFun enk3 (m + 5)).trans ((pmU_n _ _ (by omega)).trans hR.2.2.2.2.2.1), (congrFun enk3 (m + 6)).trans ((pmU_n _ _ (by omega)).trans hR.2.2.2.2.2.2.1), (congrFun enk3 (m + 7)).trans ((pmU_n _ _ (by omega)).trans hR.2.2.2.2.2.2.2.1), (congrFun enk3 (m + 8)).trans ((pmU_n _ _ (by omega)).trans hR.2.2.2.2.2.2.2.2.1), (congrFun enk3 (m + 9)).trans ((pmU_n _ _ (by omega)).trans hR.2.2.2.2.2.2.2.2.2.1), (congrFun enk3 (m + 10)).trans ((pmU_n _ _ (by omega)).trans hR.2.2.2.2.2.2.2.2.2.2.1), (congrFun enk3 (m + 11)).trans ((pmU_n _ _ (by omega)).trans hR.2.2.2.2.2.2.2.2.2.2.2.1), (congrFun enk3 (m + 12)).trans ((pmU_n _ _ (by omega)).trans hR.2.2.2.2.2.2.2.2.2.2.2.2.1), (congrFun enk3 (m + 13)).trans ((pmU_n _ _ (by omega)).trans hR.2.2.2.2.2.2.2.2.2.2.2.2.2.1), (congrFun enk3 (m + 14)).trans ((pmU_n _ _ (by omega)).trans hR.2.2.2.2.2.2.2.2.2.2.2.2.2.2.1), (congrFun enk3 (m + 15)).trans ((pmU_n _ _ (by omega)).trans hR.2.2.2.2.2.2.2.2.2.2.2.2.2.2.2.1), (congrFun enk3 (m + 16)).trans ((pmU_n _ _ (by omega)).trans hR.2.2.2.2.2.2.2.2.2.2.2.2.2.2.2.2)⟩
          have sk3 := hs.trans gsk3
          refine go_iconst (v := 0) dRef_put_103 (by decide) ?_
          refine go_iret dRef_put_104 rfl rfl ?_ (Nat.le_of_ble_eq_true rfl) (Nat.le_of_ble_eq_true rfl)
          exact retR_no (by rw [puF, if_neg (fun q => q t1), if_pos (fun q => absurd q.2.1.1 (Int32.not_le.mpr c4))]) hRk3 hr rfl sk3
        · refine go_iload_n dRef_put_28 rfl ?_
          refine go_aload_n dRef_put_29 rfl ?_
          refine go_getf dRef_put_30 qf_Ref_74 hR.1 rfl ?_
          refine go_top (y := nI α.1.2.1.2.1) (by exact hd.2.1) ?_
          refine go_icmp_ge (tgt := 51) dRef_put_33 (fun c5 => ?_) (fun c5 => ?_)
          · refine go_iconst (v := 2) dRef_put_51 (by decide) ?_
            refine go_goto (tgt := 93) dRef_put_52 ?_
            refine go_putf dRef_put_93 qf_Ref_59 pw_8_0 hR.1 rfl rfl ?_
            refine go_aload_n dRef_put_96 rfl ?_
            refine go_getf dRef_put_97 qf_Ref_59 (pmU_s _ _ _) rfl ?_
            refine go_if_le (tgt := 105) dRef_put_100 (fun cc => absurd cc (by decide)) (fun _ => ?_)
            refine go_nm (fun hnk4 enk4 => ?_)
            have gsk4 : Sm h hnk4 m 17 := by rw [enk4]; exact (Sm.put' (Sm.refl _ _ _) _ (by omega) (by omega))
            have hRk4 : RfA hnk4 m (upd g 0 2) (A) := ⟨(congrFun enk4 m).trans (pmU_s _ _ _), (congrFun enk4 (m + 1)).trans ((pmU_n _ _ (by omega)).trans hR.2.1), (congrFun enk4 (m + 2)).trans ((pmU_n _ _ (by omega)).trans hR.2.2.1), (congrFun enk4 (m + 3)).trans ((pmU_n _ _ (by omega)).trans hR.2.2.2.1), (congrFun enk4 (m + 4)).trans ((pmU_n _ _ (by omega)).trans hR.2.2.2.2.1), (congrFun enk4 (m + 5)).trans ((pmU_n _ _ (by omega)).trans hR.2.2.2.2.2.1), (congrFun enk4 (m + 6)).trans ((pmU_n _ _ (by omega)).trans hR.2.2.2.2.2.2.1), (congrFun enk4 (m + 7)).trans ((pmU_n _ _ (by omega)).trans hR.2.2.2.2.2.2.2.1), (congrFun enk4 (m + 8)).trans ((pmU_n _ _ (by omega)).trans hR.2.2.2.2.2.2.2.2.1), (congrFun enk4 (m + 9)).trans ((pmU_n _ _ (by omega)).trans hR.2.2.2.2.2.2.2.2.2.1), (congrFun enk4 (m + 10)).trans ((pmU_n _ _ (by omega)).trans hR.2.2.2.2.2.2.2.2.2.2.1), (congrFun enk4 (m + 11)).trans ((pmU_n _ _ (by omega)).trans hR.2.2.2.2.2.2.2.2.2.2.2.1), (congrFun enk4 (m + 12)).trans ((pmU_n _ _ (by omega)).trans hR.2.2.2.2.2.2.2.2.2.2.2.2.1), (congrFun enk4 (m + 13)).trans ((pmU_n _ _ (by omega)).trans hR.2.2.2.2.2.2.2.2.2.2.2.2.2.1), (congrFun enk4 (m + 14)).trans ((pmU_n _ _ (by omega)).trans hR.2.2.2.2.2.2.2.2.2.2.2.2.2.2.1), (congrFun enk4 (m + 15)).trans ((pmU_n _ _ (by omega)).trans hR.2.2.2.2.2.2.2.2.2.2.2.2.2.2.2.1), (congrFun enk4 (m + 16)).trans ((pmU_n _ _ (by omega)).trans hR.2.2.2.2.2.2.2.2.2.2.2.2.2.2.2.2)⟩
            have sk4 := hs.trans gsk4
            refine go_iconst (v := 0) dRef_put_103 (by decide) ?_
            refine go_iret dRef_put_104 rfl rfl ?_ (Nat.le_of_ble_eq_true rfl) (Nat.le_of_ble_eq_true rfl)
            exact retR_no (by rw [puF, if_neg (fun q => q t1), if_pos (fun q => absurd q.2.1.2 (Int32.not_lt.mpr c5))]) hRk4 hr rfl sk4
          · refine go_iload_n dRef_put_36 rfl ?_
            refine go_if_lt (tgt := 51) dRef_put_37 (fun c6 => ?_) (fun c6 => ?_)
            · refine go_iconst (v := 2) dRef_put_51 (by decide) ?_
              refine go_goto (tgt := 93) dRef_put_52 ?_
              refine go_putf dRef_put_93 qf_Ref_59 pw_8_0 hR.1 rfl rfl ?_
              refine go_aload_n dRef_put_96 rfl ?_
              refine go_getf dRef_put_97 qf_Ref_59 (pmU_s _ _ _) rfl ?_
              refine go_if_le (tgt := 105) dRef_put_100 (fun cc => absurd cc (by decide)) (fun _ => ?_)
              refine go_nm (fun hnk5 enk5 => ?_)
              have gsk5 : Sm h hnk5 m 17 := by rw [enk5]; exact (Sm.put' (Sm.refl _ _ _) _ (by omega) (by omega))
              have hRk5 : RfA hnk5 m (upd g 0 2) (A) := ⟨(congrFun enk5 m).trans (pmU_s _ _ _), (congrFun enk5 (m + 1)).trans ((pmU_n _ _ (by omega)).trans hR.2.1), (congrFun enk5 (m + 2)).trans ((pmU_n _ _ (by omega)).trans hR.2.2.1), (congrFun enk5 (m + 3)).trans ((pmU_n _ _ (by omega)).trans hR.2.2.2.1), (congrFun enk5 (m + 4)).trans ((pmU_n _ _ (by omega)).trans hR.2.2.2.2.1), (congrFun enk5 (m + 5)).trans ((pmU_n _ _ (by omega)).trans hR.2.2.2.2.2.1), (congrFun enk5 (m + 6)).trans ((pmU_n _ _ (by omega)).trans hR.2.2.2.2.2.2.1), (congrFun enk5 (m + 7)).trans ((pmU_n _ _ (by omega)).trans hR.2.2.2.2.2.2.2.1), (congrFun enk5 (m + 8)).trans ((pmU_n _ _ (by omega)).trans hR.2.2.2.2.2.2.2.2.1), (congrFun enk5 (m + 9)).trans ((pmU_n _ _ (by omega)).trans hR.2.2.2.2.2.2.2.2.2.1), (congrFun enk5 (m + 10)).trans ((pmU_n _ _ (by omega)).trans hR.2.2.2.2.2.2.2.2.2.2.1), (congrFun enk5 (m + 11)).trans ((pmU_n _ _ (by omega)).trans hR.2.2.2.2.2.2.2.2.2.2.2.1), (congrFun enk5 (m + 12)).trans ((pmU_n _ _ (by omega)).trans hR.2.2.2.2.2.2.2.2.2.2.2.2.1), (congrFun enk5 (m + 13)).trans ((pmU_n _ _ (by omega)).trans hR.2.2.2.2.2.2.2.2.2.2.2.2.2.1), (congrFun enk5 (m + 14)).trans ((pmU_n _ _ (by omega)).trans hR.2.2.2.2.2.2.2.2.2.2.2.2.2.2.1), (congrFun enk5 (m + 15)).trans ((pmU_n _ _ (by omega)).trans hR.2.2.2.2.2.2.2.2.2.2.2.2.2.2.2.1), (congrFun enk5 (m + 16)).trans ((pmU_n _ _ (by omega)).trans hR.2.2.2.2.2.2.2.2.2.2.2.2.2.2.2.2)⟩
              have sk5 := hs.trans gsk5
              refine go_iconst (v := 0) dRef_put_103 (by decide) ?_
              refine go_iret dRef_put_104 rfl rfl ?_ (Nat.le_of_ble_eq_true rfl) (Nat.le_of_ble_eq_true rfl)
              exact retR_no (by rw [puF, if_neg (fun q => q t1), if_pos (fun q => absurd q.2.2.1 (Int32.not_le.mpr c6))]) hRk5 hr rfl sk5
            · refine go_iload_n dRef_put_40 rfl ?_
              refine go_aload_n dRef_put_41 rfl ?_
              refine go_getf dRef_put_42 qf_Ref_80 hR.1 rfl ?_
              refine go_top (y := nI α.1.2.1.2.2.2) (by exact hd.2.2.2) ?_
              refine go_statP dRef_put_45 ok_mRef_channelsOf st_mRef_channelsOf qm_Ref_100 r_channelsOf ?_ (hnp := np_mRef_channelsOf)
              rw [chOf_n hok.k]
              refine go_icmp_lt (tgt := 55) dRef_put_48 (fun c7 => ?_) (fun c7 => ?_)
              · have h2 : pHas α.1.2.1 a1 a2 a3 := ⟨⟨Int32.not_lt.mp c2, Int32.not_le.mp c3⟩, ⟨Int32.not_lt.mp c4, Int32.not_le.mp c5⟩, Int32.not_lt.mp c6, c7⟩
                refine go_iload dRef_put_55 rfl ?_
                refine go_if_lt (tgt := 88) dRef_put_57 (fun c8 => ?_) (fun c8 => ?_)
                · refine go_iconst (v := 3) dRef_put_88 (by decide) ?_
                  refine go_goto (tgt := 93) dRef_put_89 ?_
                  refine go_putf dRef_put_93 qf_Ref_59 pw_8_0 hR.1 rfl rfl ?_
                  refine go_aload_n dRef_put_96 rfl ?_
                  refine go_getf dRef_put_97 qf_Ref_59 (pmU_s _ _ _) rfl ?_
                  refine go_if_le (tgt := 105) dRef_put_100 (fun cc => absurd cc (by decide)) (fun _ => ?_)
                  refine go_nm (fun hnk6 enk6 => ?_)
                  have gsk6 : Sm h hnk6 m 17 := by rw [enk6]; exact (Sm.put' (Sm.refl _ _ _) _ (by omega) (by omega))
                  have hRk6 : RfA hnk6 m (upd g 0 3) (A) := ⟨(congrFun enk6 m).trans (pmU_s _ _ _), (congrFun enk6 (m + 1)).trans ((pmU_n _ _ (by omega)).trans hR.2.1), (congrFun enk6 (m + 2)).trans ((pmU_n _ _ (by omega)).trans hR.2.2.1), (congrFun enk6 (m + 3)).trans ((pmU_n _ _ (by omega)).trans hR.2.2.2.1), (congrFun enk6 (m + 4)).trans ((pmU_n _ _ (by omega)).trans hR.2.2.2.2.1), (congrFun enk6 (m + 5)).trans ((pmU_n _ _ (by omega)).trans hR.2.2.2.2.2.1), (congrFun enk6 (m + 6)).trans ((pmU_n _ _ (by omega)).trans hR.2.2.2.2.2.2.1), (congrFun enk6 (m + 7)).trans ((pmU_n _ _ (by omega)).trans hR.2.2.2.2.2.2.2.1), (congrFun enk6 (m + 8)).trans ((pmU_n _ _ (by omega)).trans hR.2.2.2.2.2.2.2.2.1), (congrFun enk6 (m + 9)).trans ((pmU_n _ _ (by omega)).trans hR.2.2.2.2.2.2.2.2.2.1), (congrFun enk6 (m + 10)).trans ((pmU_n _ _ (by omega)).trans hR.2.2.2.2.2.2.2.2.2.2.1), (congrFun enk6 (m + 11)).trans ((pmU_n _ _ (by omega)).trans hR.2.2.2.2.2.2.2.2.2.2.2.1), (congrFun enk6 (m + 12)).trans ((pmU_n _ _ (by omega)).trans hR.2.2.2.2.2.2.2.2.2.2.2.2.1), (congrFun enk6 (m + 13)).trans ((pmU_n _ _ (by omega)).trans hR.2.2.2.2.2.2.2.2.2.2.2.2.2.1), (congrFun enk6 (m + 14)).trans ((pmU_n _ _ (by omega)).trans hR.2.2.2.2.2.2.2.2.2.2.2.2.2.2.1), (congrFun enk6 (m + 15)).trans ((pmU_n _ _ (by omega)).trans hR.2.2.2.2.2.2.2.2.2.2.2.2.2.2.2.1), (congrFun enk6 (m + 16)).trans ((pmU_n _ _ (by omega)).trans hR.2.2.2.2.2.2.2.2.2.2.2.2.2.2.2.2)⟩
                  have sk6 := hs.trans gsk6
                  refine go_iconst (v := 0) dRef_put_103 (by decide) ?_
                  refine go_iret dRef_put_104 rfl rfl ?_ (Nat.le_of_ble_eq_true rfl) (Nat.le_of_ble_eq_true rfl)
                  exact retR_no (by rw [puF, if_neg (fun q => q t1), if_neg (fun q => q h2), if_pos (fun q => absurd q.1 (Int32.not_le.mpr c8))]) hRk6 hr rfl sk6
                · refine go_iload dRef_put_60 rfl ?_
                  refine go_iconst (v := 1) dRef_put_62 (by decide) ?_
                  refine go_aload_n dRef_put_63 rfl ?_
                  refine go_getf dRef_put_64 qf_Ref_77 hR.1 rfl ?_
                  refine go_ishl dRef_put_67 ?_
                  refine go_top (y := nI (2 ^ α.1.2.1.2.2.1)) (by rw [hd.2.2.1]; exact sh1_n hb.2) ?_
                  refine go_icmp_ge (tgt := 88) dRef_put_68 (fun c9 => ?_) (fun c9 => ?_)
                  · refine go_iconst (v := 3) dRef_put_88 (by decide) ?_
                    refine go_goto (tgt := 93) dRef_put_89 ?_
                    refine go_putf dRef_put_93 qf_Ref_59 pw_8_0 hR.1 rfl rfl ?_
                    refine go_aload_n dRef_put_96 rfl ?_
                    refine go_getf dRef_put_97 qf_Ref_59 (pmU_s _ _ _) rfl ?_
                    refine go_if_le (tgt := 105) dRef_put_100 (fun cc => absurd cc (by decide)) (fun _ => ?_)
                    refine go_nm (fun hnk7 enk7 => ?_)
                    have gsk7 : Sm h hnk7 m 17 := by rw [enk7]; exact (Sm.put' (Sm.refl _ _ _) _ (by omega) (by omega))
                    have hRk7 : RfA hnk7 m (upd g 0 3) (A) := ⟨(congrFun enk7 m).trans (pmU_s _ _ _), (congrFun enk7 (m + 1)).trans ((pmU_n _ _ (by omega)).trans hR.2.1), (congrFun enk7 (m + 2)).trans ((pmU_n _ _ (by omega)).trans hR.2.2.1), (congrFun enk7 (m + 3)).trans ((pmU_n _ _ (by omega)).trans hR.2.2.2.1), (congrFun enk7 (m + 4)).trans ((pmU_n _ _ (by omega)).trans hR.2.2.2.2.1), (congrFun enk7 (m + 5)).trans ((pmU_n _ _ (by omega)).trans hR.2.2.2.2.2.1), (congrFun enk7 (m + 6)).trans ((pmU_n _ _ (by omega)).trans hR.2.2.2.2.2.2.1), (congrFun enk7 (m + 7)).trans ((pmU_n _ _ (by omega)).trans hR.2.2.2.2.2.2.2.1), (congrFun enk7 (m + 8)).trans ((pmU_n _ _ (by omega)).trans hR.2.2.2.2.2.2.2.2.1), (congrFun enk7 (m + 9)).trans ((pmU_n _ _ (by omega)).trans hR.2.2.2.2.2.2.2.2.2.1), (congrFun enk7 (m + 10)).trans ((pmU_n _ _ (by omega)).trans hR.2.2.2.2.2.2.2.2.2.2.1), (congrFun enk7 (m + 11)).trans ((pmU_n _ _ (by omega)).trans hR.2.2.2.2.2.2.2.2.2.2.2.1), (congrFun enk7 (m + 12)).trans ((pmU_n _ _ (by omega)).trans hR.2.2.2.2.2.2.2.2.2.2.2.2.1), (congrFun enk7 (m + 13)).trans ((pmU_n _ _ (by omega)).trans hR.2.2.2.2.2.2.2.2.2.2.2.2.2.1), (congrFun enk7 (m + 14)).trans ((pmU_n _ _ (by omega)).trans hR.2.2.2.2.2.2.2.2.2.2.2.2.2.2.1), (congrFun enk7 (m + 15)).trans ((pmU_n _ _ (by omega)).trans hR.2.2.2.2.2.2.2.2.2.2.2.2.2.2.2.1), (congrFun enk7 (m + 16)).trans ((pmU_n _ _ (by omega)).trans hR.2.2.2.2.2.2.2.2.2.2.2.2.2.2.2.2)⟩
                    have sk7 := hs.trans gsk7
                    refine go_iconst (v := 0) dRef_put_103 (by decide) ?_
                    refine go_iret dRef_put_104 rfl rfl ?_ (Nat.le_of_ble_eq_true rfl) (Nat.le_of_ble_eq_true rfl)
                    exact retR_no (by rw [puF, if_neg (fun q => q t1), if_neg (fun q => q h2), if_pos (fun q => (le_gr hb.2).mp q.2.1 c9)]) hRk7 hr rfl sk7
                  · refine go_aload_n dRef_put_71 rfl ?_
                    refine go_getf dRef_put_72 qf_Ref_80 hR.1 rfl ?_
                    refine go_iconst (v := 3) dRef_put_75 (by decide) ?_
                    refine go_icmp_ne (tgt := 92) dRef_put_76 (fun c10 => ?_) (fun c10 => ?_)
                    · have h3 : smOk α.1.2 a4 := ⟨Int32.not_lt.mp c8, (le_gr hb.2).mpr c9, Or.inl (fun q => c10 (hd.2.2.2.trans q))⟩
                      refine go_iconst (v := 0) dRef_put_92 (by decide) ?_
                      refine go_putf dRef_put_93 qf_Ref_59 pw_8_0 hR.1 rfl rfl ?_
                      refine go_aload_n dRef_put_96 rfl ?_
                      refine go_getf dRef_put_97 qf_Ref_59 (pmU_s _ _ _) rfl ?_
                      refine go_if_le (tgt := 105) dRef_put_100 (fun _ => ?_) (fun cc => absurd (by decide) cc)
                      obtain ⟨x5, y5, u5, rfl, rfl, rfl, hx5, hy5, hu5⟩ := pHas_ex h2
                      have hsv : A 0 ((y5 * 12 + x5) * 4 + u5) = α.1.2.2.1 ((y5 * 12 + x5) * 4 + u5) := (ho.2.1 t1).2.1 x5 hx5 y5 hy5 u5 hu5
                      refine go_iconst (v := 4) dRef_put_105 (by decide) ?_
                      refine go_bipush (v := 12) dRef_put_106 (by decide) ?_
                      refine go_iload_n dRef_put_108 rfl ?_
                      refine go_imul dRef_put_109 ?_
                      refine go_iload_n dRef_put_110 rfl ?_
                      refine go_iadd dRef_put_111 ?_
                      refine go_imul dRef_put_112 ?_
                      refine go_iload_n dRef_put_113 rfl ?_
                      refine go_iadd dRef_put_114 ?_
                      refine go_top (y := nI ((y5 * 12 + x5) * 4 + u5)) (by rw [show (4 : Int32) = nI 4 from rfl, show (12 : Int32) = nI 12 from rfl, pk_mul, nI_add, pk_mul, nI_add]; congr 1; omega) ?_
                      refine go_istore dRef_put_115 ?_
                      refine go_aload_n dRef_put_117 rfl ?_
                      refine go_getf dRef_put_118 qf_Ref_7 (pmU_s _ _ _) rfl ?_
                      refine go_iload dRef_put_121 rfl ?_
                      refine go_iald dRef_put_123 ((pmU_n _ _ (by omega)).trans hR.2.1) (by exact vp_in_nI (by omega) (by omega)) (congrArg _ (nI_clamp (by omega))) ?_
                      refine go_istore dRef_put_124 ?_
                      refine go_aload_n dRef_put_126 rfl ?_
                      refine go_getf dRef_put_127 qf_Ref_7 (pmU_s _ _ _) rfl ?_
                      refine go_iload dRef_put_130 rfl ?_
                      refine go_iload dRef_put_132 rfl ?_
                      refine go_iast dRef_put_134 ((pmU_n _ _ (by omega)).trans hR.2.1) (by exact vp_in_nI (by omega) (by omega)) (nI_clamp (by omega)) ?_
                      refine go_nm (fun hnk8 enk8 => ?_)
                      have gsk8 : Sm h hnk8 m 17 := by rw [enk8]; exact (Sm.put' (Sm.put' (Sm.refl _ _ _) _ (by omega) (by omega)) _ (by omega) (by omega))
                      have hRk8 : RfA hnk8 m (upd g 0 0) (uA A 0 (upd (A 0) ((y5 * 12 + x5) * 4 + u5) a4)) := ⟨(congrFun enk8 m).trans ((pmU_n _ _ (by omega)).trans (pmU_s _ _ _)), (congrFun enk8 (m + 1)).trans (pmU_s _ _ _), (congrFun enk8 (m + 2)).trans ((pmU_n _ _ (by omega)).trans ((pmU_n _ _ (by omega)).trans hR.2.2.1)), (congrFun enk8 (m + 3)).trans ((pmU_n _ _ (by omega)).trans ((pmU_n _ _ (by omega)).trans hR.2.2.2.1)), (congrFun enk8 (m + 4)).trans ((pmU_n _ _ (by omega)).trans ((pmU_n _ _ (by omega)).trans hR.2.2.2.2.1)), (congrFun enk8 (m + 5)).trans ((pmU_n _ _ (by omega)).trans ((pmU_n _ _ (by omega)).trans hR.2.2.2.2.2.1)), (congrFun enk8 (m + 6)).trans ((pmU_n _ _ (by omega)).trans ((pmU_n _ _ (by omega)).trans hR.2.2.2.2.2.2.1)), (congrFun enk8 (m + 7)).trans ((pmU_n _ _ (by omega)).trans ((pmU_n _ _ (by omega)).trans hR.2.2.2.2.2.2.2.1)), (congrFun enk8 (m + 8)).trans ((pmU_n _ _ (by omega)).trans ((pmU_n _ _ (by omega)).trans hR.2.2.2.2.2.2.2.2.1)), (congrFun enk8 (m + 9)).trans ((pmU_n _ _ (by omega)).trans ((pmU_n _ _ (by omega)).trans hR.2.2.2.2.2.2.2.2.2.1)), (congrFun enk8 (m + 10)).trans ((pmU_n _ _ (by omega)).trans ((pmU_n _ _ (by omega)).trans hR.2.2.2.2.2.2.2.2.2.2.1)), (congrFun enk8 (m + 11)).trans ((pmU_n _ _ (by omega)).trans ((pmU_n _ _ (by omega)).trans hR.2.2.2.2.2.2.2.2.2.2.2.1)), (congrFun enk8 (m + 12)).trans ((pmU_n _ _ (by omega)).trans ((pmU_n _ _ (by omega)).trans hR.2.2.2.2.2.2.2.2.2.2.2.2.1)), (congrFun enk8 (m + 13)).trans ((pmU_n _ _ (by omega)).trans ((pmU_n _ _ (by omega)).trans hR.2.2.2.2.2.2.2.2.2.2.2.2.2.1)), (congrFun enk8 (m + 14)).trans ((pmU_n _ _ (by omega)).trans ((pmU_n _ _ (by omega)).trans hR.2.2.2.2.2.2.2.2.2.2.2.2.2.2.1)), (congrFun enk8 (m + 15)).trans ((pmU_n _ _ (by omega)).trans ((pmU_n _ _ (by omega)).trans hR.2.2.2.2.2.2.2.2.2.2.2.2.2.2.2.1)), (congrFun enk8 (m + 16)).trans ((pmU_n _ _ (by omega)).trans ((pmU_n _ _ (by omega)).trans hR.2.2.2.2.2.2.2.2.2.2.2.2.2.2.2.2))⟩
                      have sk8 := hs.trans gsk8
                      refine go_iload dRef_put_135 rfl ?_
                      refine go_iload dRef_put_137 rfl ?_
                      refine go_icmp_eq (tgt := 146) dRef_put_139 (fun c11 => ?_) (fun c11 => ?_)
                      · refine go_iload dRef_put_146 rfl ?_
                        refine go_iret dRef_put_148 rfl rfl ?_ (Nat.le_of_ble_eq_true rfl) (Nat.le_of_ble_eq_true rfl)
                        exact retR_ok (β := α) (by rw [puF, if_neg (fun q => q t1), if_neg (fun q => q h2), if_neg (fun q => q h3), poN, nI_clamp (n := x5) (by omega), nI_clamp (n := y5) (by omega), nI_clamp (n := u5) (by omega), if_pos (c11.symm.trans hsv), hsv]) hRk8 ⟨⟨ho.1, fun t => ⟨(ho.2.1 t).1, SaR_same (ho.2.1 t).2.1 hx5 hy5 hu5 c11, (ho.2.1 t).2.2⟩, ho.2.2⟩, hr.2.1, hr.2.2.1, hr.2.2.2⟩ rfl sk8
                      · refine go_aload_n dRef_put_142 rfl ?_
                        refine go_virtX dRef_put_143 ok_mRef_change im_mRef_change se_mRef_change qm_Ref_97 hRk8.1 (r_change (g := (upd g 0 0)) (A := (uA A 0 (upd (A 0) ((y5 * 12 + x5) * 4 + u5) a4))) (e := α.1.2.2.2.2.2) ho.2.2.2.1 hx6 ho.2.2.2.2 (fun k hk => (hv.1.2.2.1.2 k hk).1) hRk8) (fun hx12 d12 q12 => ?_) (hnp := np_mRef_change)
                        obtain ⟨⟨fl, fs, fb, hR12, hE9⟩, t12⟩ := q12
                        have s12 := sk8.trans t12
                        refine go_iload dRef_put_146 rfl ?_
                        refine go_iret dRef_put_148 rfl rfl ?_ (Nat.le_of_ble_eq_true rfl) (Nat.le_of_ble_eq_true rfl)
                        exact retR_ok (β := ((α.1.1, piSafe (α.1.2.1, upd α.1.2.2.1 ((y5 * 12 + x5) * 4 + u5) a4, α.1.2.2.2)), α.2)) (by rw [puF, if_neg (fun q => q t1), if_neg (fun q => q h2), if_neg (fun q => q h3), poN, nI_clamp (n := x5) (by omega), nI_clamp (n := y5) (by omega), nI_clamp (n := u5) (by omega), if_neg (fun q => c11 (hsv.trans q.symm)), hsv]) hR12 ⟨⟨ho.1, fun t => ⟨(ho.2.1 t).1, SaA_up (ho.2.1 t).2.1, (ho.2.1 t).2.2⟩, ho.2.2.1, ⟨rfl, hE9⟩⟩, hr.2.1, hr.2.2.1, hr.2.2.2⟩ rfl s12
                    · refine go_iload dRef_put_79 rfl ?_
                      refine go_aload_n dRef_put_81 rfl ?_
                      refine go_getf dRef_put_82 qf_Ref_83 hR.1 rfl ?_
                      refine go_icmp_lt (tgt := 92) dRef_put_85 (fun c11 => ?_) (fun c11 => ?_)
                      · have h3 : smOk α.1.2 a4 := ⟨Int32.not_lt.mp c8, (le_gr hb.2).mpr c9, Or.inr ⟨Int32.not_lt.mp c8, by rw [← ho.2.2.1.1]; exact c11⟩⟩
                        refine go_iconst (v := 0) dRef_put_92 (by decide) ?_
                        refine go_putf dRef_put_93 qf_Ref_59 pw_8_0 hR.1 rfl rfl ?_
                        refine go_aload_n dRef_put_96 rfl ?_
                        refine go_getf dRef_put_97 qf_Ref_59 (pmU_s _ _ _) rfl ?_
                        refine go_if_le (tgt := 105) dRef_put_100 (fun _ => ?_) (fun cc => absurd (by decide) cc)
                        obtain ⟨x5, y5, u5, rfl, rfl, rfl, hx5, hy5, hu5⟩ := pHas_ex h2
                        have hsv : A 0 ((y5 * 12 + x5) * 4 + u5) = α.1.2.2.1 ((y5 * 12 + x5) * 4 + u5) := (ho.2.1 t1).2.1 x5 hx5 y5 hy5 u5 hu5
                        refine go_iconst (v := 4) dRef_put_105 (by decide) ?_
                        refine go_bipush (v := 12) dRef_put_106 (by decide) ?_
                        refine go_iload_n dRef_put_108 rfl ?_
                        refine go_imul dRef_put_109 ?_
                        refine go_iload_n dRef_put_110 rfl ?_
                        refine go_iadd dRef_put_111 ?_
                        refine go_imul dRef_put_112 ?_
                        refine go_iload_n dRef_put_113 rfl ?_
                        refine go_iadd dRef_put_114 ?_
                        refine go_top (y := nI ((y5 * 12 + x5) * 4 + u5)) (by rw [show (4 : Int32) = nI 4 from rfl, show (12 : Int32) = nI 12 from rfl, pk_mul, nI_add, pk_mul, nI_add]; congr 1; omega) ?_
                        refine go_istore dRef_put_115 ?_
                        refine go_aload_n dRef_put_117 rfl ?_
                        refine go_getf dRef_put_118 qf_Ref_7 (pmU_s _ _ _) rfl ?_
                        refine go_iload dRef_put_121 rfl ?_
                        refine go_iald dRef_put_123 ((pmU_n _ _ (by omega)).trans hR.2.1) (by exact vp_in_nI (by omega) (by omega)) (congrArg _ (nI_clamp (by omega))) ?_
                        refine go_istore dRef_put_124 ?_
                        refine go_aload_n dRef_put_126 rfl ?_
                        refine go_getf dRef_put_127 qf_Ref_7 (pmU_s _ _ _) rfl ?_
                        refine go_iload dRef_put_130 rfl ?_
                        refine go_iload dRef_put_132 rfl ?_
                        refine go_iast dRef_put_134 ((pmU_n _ _ (by omega)).trans hR.2.1) (by exact vp_in_nI (by omega) (by omega)) (nI_clamp (by omega)) ?_
                        refine go_nm (fun hnk9 enk9 => ?_)
                        have gsk9 : Sm h hnk9 m 17 := by rw [enk9]; exact (Sm.put' (Sm.put' (Sm.refl _ _ _) _ (by omega) (by omega)) _ (by omega) (by omega))
                        have hRk9 : RfA hnk9 m (upd g 0 0) (uA A 0 (upd (A 0) ((y5 * 12 + x5) * 4 + u5) a4)) := ⟨(congrFun enk9 m).trans ((pmU_n _ _ (by omega)).trans (pmU_s _ _ _)), (congrFun enk9 (m + 1)).trans (pmU_s _ _ _), (congrFun enk9 (m + 2)).trans ((pmU_n _ _ (by omega)).trans ((pmU_n _ _ (by omega)).trans hR.2.2.1)), (congrFun enk9 (m + 3)).trans ((pmU_n _ _ (by omega)).trans ((pmU_n _ _ (by omega)).trans hR.2.2.2.1)), (congrFun enk9 (m + 4)).trans ((pmU_n _ _ (by omega)).trans ((pmU_n _ _ (by omega)).trans hR.2.2.2.2.1)), (congrFun enk9 (m + 5)).trans ((pmU_n _ _ (by omega)).trans ((pmU_n _ _ (by omega)).trans hR.2.2.2.2.2.1)), (congrFun enk9 (m + 6)).trans ((pmU_n _ _ (by omega)).trans ((pmU_n _ _ (by omega)).trans hR.2.2.2.2.2.2.1)), (congrFun enk9 (m + 7)).trans ((pmU_n _ _ (by omega)).trans ((pmU_n _ _ (by omega)).trans hR.2.2.2.2.2.2.2.1)), (congrFun enk9 (m + 8)).trans ((pmU_n _ _ (by omega)).trans ((pmU_n _ _ (by omega)).trans hR.2.2.2.2.2.2.2.2.1)), (congrFun enk9 (m + 9)).trans ((pmU_n _ _ (by omega)).trans ((pmU_n _ _ (by omega)).trans hR.2.2.2.2.2.2.2.2.2.1)), (congrFun enk9 (m + 10)).trans ((pmU_n _ _ (by omega)).trans ((pmU_n _ _ (by omega)).trans hR.2.2.2.2.2.2.2.2.2.2.1)), (congrFun enk9 (m + 11)).trans ((pmU_n _ _ (by omega)).trans ((pmU_n _ _ (by omega)).trans hR.2.2.2.2.2.2.2.2.2.2.2.1)), (congrFun enk9 (m + 12)).trans ((pmU_n _ _ (by omega)).trans ((pmU_n _ _ (by omega)).trans hR.2.2.2.2.2.2.2.2.2.2.2.2.1)), (congrFun enk9 (m + 13)).trans ((pmU_n _ _ (by omega)).trans ((pmU_n _ _ (by omega)).trans hR.2.2.2.2.2.2.2.2.2.2.2.2.2.1)), (congrFun enk9 (m + 14)).trans ((pmU_n _ _ (by omega)).trans ((pmU_n _ _ (by omega)).trans hR.2.2.2.2.2.2.2.2.2.2.2.2.2.2.1)), (congrFun enk9 (m + 15)).trans ((pmU_n _ _ (by omega)).trans ((pmU_n _ _ (by omega)).trans hR.2.2.2.2.2.2.2.2.2.2.2.2.2.2.2.1)), (congrFun enk9 (m + 16)).trans ((pmU_n _ _ (by omega)).trans ((pmU_n _ _ (by omega)).trans hR.2.2.2.2.2.2.2.2.2.2.2.2.2.2.2.2))⟩
                        have sk9 := hs.trans gsk9
                        refine go_iload dRef_put_135 rfl ?_
                        refine go_iload dRef_put_137 rfl ?_
                        refine go_icmp_eq (tgt := 146) dRef_put_139 (fun c12 => ?_) (fun c12 => ?_)
                        · refine go_iload dRef_put_146 rfl ?_
                          refine go_iret dRef_put_148 rfl rfl ?_ (Nat.le_of_ble_eq_true rfl) (Nat.le_of_ble_eq_true rfl)
                          exact retR_ok (β := α) (by rw [puF, if_neg (fun q => q t1), if_neg (fun q => q h2), if_neg (fun q => q h3), poN, nI_clamp (n := x5) (by omega), nI_clamp (n := y5) (by omega), nI_clamp (n := u5) (by omega), if_pos (c12.symm.trans hsv), hsv]) hRk9 ⟨⟨ho.1, fun t => ⟨(ho.2.1 t).1, SaR_same (ho.2.1 t).2.1 hx5 hy5 hu5 c12, (ho.2.1 t).2.2⟩, ho.2.2⟩, hr.2.1, hr.2.2.1, hr.2.2.2⟩ rfl sk9
                        · refine go_aload_n dRef_put_142 rfl ?_
                          refine go_virtX dRef_put_143 ok_mRef_change im_mRef_change se_mRef_change qm_Ref_97 hRk9.1 (r_change (g := (upd g 0 0)) (A := (uA A 0 (upd (A 0) ((y5 * 12 + x5) * 4 + u5) a4))) (e := α.1.2.2.2.2.2) ho.2.2.2.1 hx6 ho.2.2.2.2 (fun k hk => (hv.1.2.2.1.2 k hk).1) hRk9) (fun hx13 d13 q13 => ?_) (hnp := np_mRef_change)
                          obtain ⟨⟨fl, fs, fb, hR13, hE9⟩, t13⟩ := q13
                          have s13 := sk9.trans t13
                          refine go_iload dRef_put_146 rfl ?_
                          refine go_iret dRef_put_148 rfl rfl ?_ (Nat.le_of_ble_eq_true rfl) (Nat.le_of_ble_eq_true rfl)
                          exact retR_ok (β := ((α.1.1, piSafe (α.1.2.1, upd α.1.2.2.1 ((y5 * 12 + x5) * 4 + u5) a4, α.1.2.2.2)), α.2)) (by rw [puF, if_neg (fun q => q t1), if_neg (fun q => q h2), if_neg (fun q => q h3), poN, nI_clamp (n := x5) (by omega), nI_clamp (n := y5) (by omega), nI_clamp (n := u5) (by omega), if_neg (fun q => c12 (hsv.trans q.symm)), hsv]) hR13 ⟨⟨ho.1, fun t => ⟨(ho.2.1 t).1, SaA_up (ho.2.1 t).2.1, (ho.2.1 t).2.2⟩, ho.2.2.1, ⟨rfl, hE9⟩⟩, hr.2.1, hr.2.2.1, hr.2.2.2⟩ rfl s13
                      · refine go_iconst (v := 3) dRef_put_88 (by decide) ?_
                        refine go_goto (tgt := 93) dRef_put_89 ?_
                        refine go_putf dRef_put_93 qf_Ref_59 pw_8_0 hR.1 rfl rfl ?_
                        refine go_aload_n dRef_put_96 rfl ?_
                        refine go_getf dRef_put_97 qf_Ref_59 (pmU_s _ _ _) rfl ?_
                        refine go_if_le (tgt := 105) dRef_put_100 (fun cc => absurd cc (by decide)) (fun _ => ?_)
                        refine go_nm (fun hnk10 enk10 => ?_)
                        have gsk10 : Sm h hnk10 m 17 := by rw [enk10]; exact (Sm.put' (Sm.refl _ _ _) _ (by omega) (by omega))
                        have hRk10 : RfA hnk10 m (upd g 0 3) (A) := ⟨(congrFun enk10 m).trans (pmU_s _ _ _), (congrFun enk10 (m + 1)).trans ((pmU_n _ _ (by omega)).trans hR.2.1), (congrFun enk10 (m + 2)).trans ((pmU_n _ _ (by omega)).trans hR.2.2.1), (congrFun enk10 (m + 3)).trans ((pmU_n _ _ (by omega)).trans hR.2.2.2.1), (congrFun enk10 (m + 4)).trans ((pmU_n _ _ (by omega)).trans hR.2.2.2.2.1), (congrFun enk10 (m + 5)).trans ((pmU_n _ _ (by omega)).trans hR.2.2.2.2.2.1), (congrFun enk10 (m + 6)).trans ((pmU_n _ _ (by omega)).trans hR.2.2.2.2.2.2.1), (congrFun enk10 (m + 7)).trans ((pmU_n _ _ (by omega)).trans hR.2.2.2.2.2.2.2.1), (congrFun enk10 (m + 8)).trans ((pmU_n _ _ (by omega)).trans hR.2.2.2.2.2.2.2.2.1), (congrFun enk10 (m + 9)).trans ((pmU_n _ _ (by omega)).trans hR.2.2.2.2.2.2.2.2.2.1), (congrFun enk10 (m + 10)).trans ((pmU_n _ _ (by omega)).trans hR.2.2.2.2.2.2.2.2.2.2.1), (congrFun enk10 (m + 11)).trans ((pmU_n _ _ (by omega)).trans hR.2.2.2.2.2.2.2.2.2.2.2.1), (congrFun enk10 (m + 12)).trans ((pmU_n _ _ (by omega)).trans hR.2.2.2.2.2.2.2.2.2.2.2.2.1), (congrFun enk10 (m + 13)).trans ((pmU_n _ _ (by omega)).trans hR.2.2.2.2.2.2.2.2.2.2.2.2.2.1), (congrFun enk10 (m + 14)).trans ((pmU_n _ _ (by omega)).trans hR.2.2.2.2.2.2.2.2.2.2.2.2.2.2.1), (congrFun enk10 (m + 15)).trans ((pmU_n _ _ (by omega)).trans hR.2.2.2.2.2.2.2.2.2.2.2.2.2.2.2.1), (congrFun enk10 (m + 16)).trans ((pmU_n _ _ (by omega)).trans hR.2.2.2.2.2.2.2.2.2.2.2.2.2.2.2.2)⟩
                        have sk10 := hs.trans gsk10
                        refine go_iconst (v := 0) dRef_put_103 (by decide) ?_
                        refine go_iret dRef_put_104 rfl rfl ?_ (Nat.le_of_ble_eq_true rfl) (Nat.le_of_ble_eq_true rfl)
                        exact retR_no (by rw [puF, if_neg (fun q => q t1), if_neg (fun q => q h2), if_pos (fun q => q.2.2.elim (fun x => x (hd.2.2.2.symm.trans c10)) (fun x => c11 (by rw [ho.2.2.1.1]; exact x.2)))]) hRk10 hr rfl sk10
              · refine go_iconst (v := 2) dRef_put_51 (by decide) ?_
                refine go_goto (tgt := 93) dRef_put_52 ?_
                refine go_putf dRef_put_93 qf_Ref_59 pw_8_0 hR.1 rfl rfl ?_
                refine go_aload_n dRef_put_96 rfl ?_
                refine go_getf dRef_put_97 qf_Ref_59 (pmU_s _ _ _) rfl ?_
                refine go_if_le (tgt := 105) dRef_put_100 (fun cc => absurd cc (by decide)) (fun _ => ?_)
                refine go_nm (fun hnk11 enk11 => ?_)
                have gsk11 : Sm h hnk11 m 17 := by rw [enk11]; exact (Sm.put' (Sm.refl _ _ _) _ (by omega) (by omega))
                have hRk11 : RfA hnk11 m (upd g 0 2) (A) := ⟨(congrFun enk11 m).trans (pmU_s _ _ _), (congrFun enk11 (m + 1)).trans ((pmU_n _ _ (by omega)).trans hR.2.1), (congrFun enk11 (m + 2)).trans ((pmU_n _ _ (by omega)).trans hR.2.2.1), (congrFun enk11 (m + 3)).trans ((pmU_n _ _ (by omega)).trans hR.2.2.2.1), (congrFun enk11 (m + 4)).trans ((pmU_n _ _ (by omega)).trans hR.2.2.2.2.1), (congrFun enk11 (m + 5)).trans ((pmU_n _ _ (by omega)).trans hR.2.2.2.2.2.1), (congrFun enk11 (m + 6)).trans ((pmU_n _ _ (by omega)).trans hR.2.2.2.2.2.2.1), (congrFun enk11 (m + 7)).trans ((pmU_n _ _ (by omega)).trans hR.2.2.2.2.2.2.2.1), (congrFun enk11 (m + 8)).trans ((pmU_n _ _ (by omega)).trans hR.2.2.2.2.2.2.2.2.1), (congrFun enk11 (m + 9)).trans ((pmU_n _ _ (by omega)).trans hR.2.2.2.2.2.2.2.2.2.1), (congrFun enk11 (m + 10)).trans ((pmU_n _ _ (by omega)).trans hR.2.2.2.2.2.2.2.2.2.2.1), (congrFun enk11 (m + 11)).trans ((pmU_n _ _ (by omega)).trans hR.2.2.2.2.2.2.2.2.2.2.2.1), (congrFun enk11 (m + 12)).trans ((pmU_n _ _ (by omega)).trans hR.2.2.2.2.2.2.2.2.2.2.2.2.1), (congrFun enk11 (m + 13)).trans ((pmU_n _ _ (by omega)).trans hR.2.2.2.2.2.2.2.2.2.2.2.2.2.1), (congrFun enk11 (m + 14)).trans ((pmU_n _ _ (by omega)).trans hR.2.2.2.2.2.2.2.2.2.2.2.2.2.2.1), (congrFun enk11 (m + 15)).trans ((pmU_n _ _ (by omega)).trans hR.2.2.2.2.2.2.2.2.2.2.2.2.2.2.2.1), (congrFun enk11 (m + 16)).trans ((pmU_n _ _ (by omega)).trans hR.2.2.2.2.2.2.2.2.2.2.2.2.2.2.2.2)⟩
                have sk11 := hs.trans gsk11
                refine go_iconst (v := 0) dRef_put_103 (by decide) ?_
                refine go_iret dRef_put_104 rfl rfl ?_ (Nat.le_of_ble_eq_true rfl) (Nat.le_of_ble_eq_true rfl)
                exact retR_no (by rw [puF, if_neg (fun q => q t1), if_pos (fun q => c7 q.2.2.2)]) hRk11 hr rfl sk11
  · refine go_iconst (v := 1) dRef_put_8 (by decide) ?_
    refine go_goto (tgt := 93) dRef_put_9 ?_
    refine go_putf dRef_put_93 qf_Ref_59 pw_8_0 hR.1 rfl rfl ?_
    refine go_aload_n dRef_put_96 rfl ?_
    refine go_getf dRef_put_97 qf_Ref_59 (pmU_s _ _ _) rfl ?_
    refine go_if_le (tgt := 105) dRef_put_100 (fun cc => absurd cc (by decide)) (fun _ => ?_)
    refine go_nm (fun hnk12 enk12 => ?_)
    have gsk12 : Sm h hnk12 m 17 := by rw [enk12]; exact (Sm.put' (Sm.refl _ _ _) _ (by omega) (by omega))
    have hRk12 : RfA hnk12 m (upd g 0 1) (A) := ⟨(congrFun enk12 m).trans (pmU_s _ _ _), (congrFun enk12 (m + 1)).trans ((pmU_n _ _ (by omega)).trans hR.2.1), (congrFun enk12 (m + 2)).trans ((pmU_n _ _ (by omega)).trans hR.2.2.1), (congrFun enk12 (m + 3)).trans ((pmU_n _ _ (by omega)).trans hR.2.2.2.1), (congrFun enk12 (m + 4)).trans ((pmU_n _ _ (by omega)).trans hR.2.2.2.2.1), (congrFun enk12 (m + 5)).trans ((pmU_n _ _ (by omega)).trans hR.2.2.2.2.2.1), (congrFun enk12 (m + 6)).trans ((pmU_n _ _ (by omega)).trans hR.2.2.2.2.2.2.1), (congrFun enk12 (m + 7)).trans ((pmU_n _ _ (by omega)).trans hR.2.2.2.2.2.2.2.1), (congrFun enk12 (m + 8)).trans ((pmU_n _ _ (by omega)).trans hR.2.2.2.2.2.2.2.2.1), (congrFun enk12 (m + 9)).trans ((pmU_n _ _ (by omega)).trans hR.2.2.2.2.2.2.2.2.2.1), (congrFun enk12 (m + 10)).trans ((pmU_n _ _ (by omega)).trans hR.2.2.2.2.2.2.2.2.2.2.1), (congrFun enk12 (m + 11)).trans ((pmU_n _ _ (by omega)).trans hR.2.2.2.2.2.2.2.2.2.2.2.1), (congrFun enk12 (m + 12)).trans ((pmU_n _ _ (by omega)).trans hR.2.2.2.2.2.2.2.2.2.2.2.2.1), (congrFun enk12 (m + 13)).trans ((pmU_n _ _ (by omega)).trans hR.2.2.2.2.2.2.2.2.2.2.2.2.2.1), (congrFun enk12 (m + 14)).trans ((pmU_n _ _ (by omega)).trans hR.2.2.2.2.2.2.2.2.2.2.2.2.2.2.1), (congrFun enk12 (m + 15)).trans ((pmU_n _ _ (by omega)).trans hR.2.2.2.2.2.2.2.2.2.2.2.2.2.2.2.1), (congrFun enk12 (m + 16)).trans ((pmU_n _ _ (by omega)).trans hR.2.2.2.2.2.2.2.2.2.2.2.2.2.2.2.2)⟩
    have sk12 := hs.trans gsk12
    refine go_iconst (v := 0) dRef_put_103 (by decide) ?_
    refine go_iret dRef_put_104 rfl rfl ?_ (Nat.le_of_ble_eq_true rfl) (Nat.le_of_ble_eq_true rfl)
    exact retR_no (by rw [puF, if_pos (ht.mp c1)]) hRk12 hr rfl sk12
set_option maxHeartbeats 4000000 in
theorem r_extra {E : pmEv} {h : pmH} {m : Nat} {g : Nat → Int32} {A : Nat → Nat → Int32} {α : aPF} {a1 : Int32} (hR : RfA h m g A) (hr : RR g A α) (hv : IvA α) : Call E mRef_extra [.ref m, .int a1] h none 0 0 (RetR m h [1, 2, 0, 3] (some (.int 0)) (exF α a1)) := by
  have hs : Sm h h m 17 := Sm.refl _ _ _
  have ho := hr.1
  have ht : g 1 = 0 ↔ ¬ α.1.1 = true := by rw [ho.1]; exact bI_0
  have hok := hv.1.1
  have hb := hok.b
  have hkk := hok.k
  have hwh := hok.w
  have hch := chN_le α.1.2.1.2.2.2
  have hc64 := hv.1.2.1.1
  have hx6 := hv.1.2.2.1.1
  refine call_of (L := [some (.ref m), some (.int a1)]) ok_mRef_extra (Nat.le_of_ble_eq_true rfl) ?_
  refine go_aload_n dRef_extra_0 rfl ?_
  refine go_aload_n dRef_extra_1 rfl ?_
  refine go_getf dRef_extra_2 qf_Ref_67 hR.1 rfl ?_
  refine go_if_ne (tgt := 12) dRef_extra_5 (fun c1 => ?_) (fun c1 => ?_)
  · have t1 : α.1.1 = true := Decidable.not_not.mp fun q => c1 (ht.mpr q)
    have hd := (ho.2.1 t1).1
    refine go_iload_n dRef_extra_12 rfl ?_
    refine go_statP dRef_extra_13 ok_mRef_isOfOthers st_mRef_isOfOthers qm_Ref_128 r_isOfOthers ?_ (hnp := np_mRef_isOfOthers)
    refine go_ifne_b (tgt := 23) dRef_extra_16 (fun c2 => ?_) (fun c2 => ?_)
    · refine go_aload_n dRef_extra_23 rfl ?_
      refine go_getf dRef_extra_24 qf_Ref_86 hR.1 rfl ?_
      refine go_bipush (v := 6) dRef_extra_27 (by decide) ?_
      refine go_icmp_ne (tgt := 36) dRef_extra_29 (fun c3 => ?_) (fun c3 => ?_)
      · refine go_iconst (v := 0) dRef_extra_36 (by decide) ?_
        refine go_putf dRef_extra_37 qf_Ref_59 pw_8_0 hR.1 rfl rfl ?_
        refine go_aload_n dRef_extra_40 rfl ?_
        refine go_getf dRef_extra_41 qf_Ref_59 (pmU_s _ _ _) rfl ?_
        refine go_if_le (tgt := 49) dRef_extra_44 (fun _ => ?_) (fun cc => absurd (by decide) cc)
        have hlt : α.1.2.2.2.2.2.2.2.2 < 6 := Nat.lt_of_le_of_ne hx6 fun q => c3 (by rw [ho.2.2.2.1, q]; rfl)
        refine go_aload_n dRef_extra_49 rfl ?_
        refine go_getf dRef_extra_50 qf_Ref_19 (pmU_s _ _ _) rfl ?_
        refine go_aload_n dRef_extra_53 rfl ?_
        refine go_getf dRef_extra_54 qf_Ref_86 (pmU_s _ _ _) rfl ?_
        refine go_top (y := nI α.1.2.2.2.2.2.2.2.2) (by exact ho.2.2.2.1) ?_
        refine go_iload_n dRef_extra_57 rfl ?_
        refine go_iast dRef_extra_58 ((pmU_n _ _ (by omega)).trans hR.2.2.2.2.1) (by exact vp_in_nI (by omega) (by omega)) (nI_clamp (by omega)) ?_
        refine go_aload_n dRef_extra_59 rfl ?_
        refine go_getf dRef_extra_60 qf_Ref_22 ((pmU_n _ _ (by omega)).trans (pmU_s _ _ _)) rfl ?_
        refine go_aload_n dRef_extra_63 rfl ?_
        refine go_getf dRef_extra_64 qf_Ref_86 ((pmU_n _ _ (by omega)).trans (pmU_s _ _ _)) rfl ?_
        refine go_top (y := nI α.1.2.2.2.2.2.2.2.2) (by exact ho.2.2.2.1) ?_
        refine go_iconst (v := 0) dRef_extra_67 (by decide) ?_
        refine go_iast dRef_extra_68 ((pmU_n _ _ (by omega)).trans ((pmU_n _ _ (by omega)).trans hR.2.2.2.2.2.1)) (by exact vp_in_nI (by omega) (by omega)) (nI_clamp (by omega)) ?_
        refine go_aload_n dRef_extra_69 rfl ?_
        refine go_dup dRef_extra_70 rfl ?_
        refine go_getf dRef_extra_71 qf_Ref_86 ((pmU_n _ _ (by omega)).trans ((pmU_n _ _ (by omega)).trans (pmU_s _ _ _))) rfl ?_
        refine go_iconst (v := 1) dRef_extra_74 (by decide) ?_
        refine go_iadd dRef_extra_75 ?_
        refine go_putf dRef_extra_76 qf_Ref_86 pw_8_10 ((pmU_n _ _ (by omega)).trans ((pmU_n _ _ (by omega)).trans (pmU_s _ _ _))) rfl rfl ?_
        refine go_nm (fun hnk1 enk1 => ?_)
        have gsk1 : Sm h hnk1 m 17 := by rw [enk1]; exact (Sm.put' (Sm.put' (Sm.put' (Sm.put' (Sm.refl _ _ _) _ (by omega) (by omega)) _ (by omega) (by omega)) _ (by omega) (by omega)) _ (by omega) (by omega))
        have hRk1 : RfA hnk1 m (upd (upd g 0 0) 10 (g 10 + 1)) (uA (uA A 3 (upd (A 3) α.1.2.2.2.2.2.2.2.2 a1)) 4 (upd (A 4) α.1.2.2.2.2.2.2.2.2 0)) := ⟨(congrFun enk1 m).trans (pmU_s _ _ _), (congrFun enk1 (m + 1)).trans ((pmU_n _ _ (by omega)).trans ((pmU_n _ _ (by omega)).trans ((pmU_n _ _ (by omega)).trans ((pmU_n _ _ (by omega)).trans hR.2.1)))), (congrFun enk1 (m + 2)).trans ((pmU_n _ _ (by omega)).trans ((pmU_n _ _ (by omega)).trans ((pmU_n _ _ (by omega)).trans ((pmU_n _ _ (by omega)).trans hR.2.2.1)))), (congrFun enk1 (m + 3)).trans ((pmU_n _ _ (by omega)).trans ((pmU_n _ _ (by omega)).trans ((pmU_n _ _ (by omega)).trans ((pmU_n _ _ (by omega)).trans hR.2.2.2.1)))), (congrFun enk1 (m + 4)).trans ((pmU_n _ _ (by omega)).trans ((pmU_n _ _ (by omega)).trans (pmU_s _ _ _))), (congrFun enk1 (m + 5)).trans ((pmU_n _ _ (by omega)).trans (pmU_s _ _ _)), (congrFun enk1 (m + 6)).trans ((pmU_n _ _ (by omega)).trans ((pmU_n _ _ (by omega)).trans ((pmU_n _ _ (by omega)).trans ((pmU_n _ _ (by omega)).trans hR.2.2.2.2.2.2.1)))), (congrFun enk1 (m + 7)).trans ((pmU_n _ _ (by omega)).trans ((pmU_n _ _ (by omega)).trans ((pmU_n _ _ (by omega)).trans ((pmU_n _ _ (by omega)).trans hR.2.2.2.2.2.2.2.1)))), (congrFun enk1 (m + 8)).trans ((pmU_n _ _ (by omega)).trans ((pmU_n _ _ (by omega)).trans ((pmU_n _ _ (by omega)).trans ((pmU_n _ _ (by omega)).trans hR.2.2.2.2.2.2.2.2.1)))), (congrFun enk1 (m + 9)).trans ((pmU_n _ _ (by omega)).trans ((pmU_n _ _ (by omega)).trans ((pmU_n _ _ (by omega)).trans ((pmU_n _ _ (by omega)).trans hR.2.2.2.2.2.2.2.2.2.1)))), (congrFun enk1 (m + 10)).trans ((pmU_n _ _ (by omega)).trans ((pmU_n _ _ (by omega)).trans ((pmU_n _ _ (by omega)).trans ((pmU_n _ _ (by omega)).trans hR.2.2.2.2.2.2.2.2.2.2.1)))), (congrFun enk1 (m + 11)).trans ((pmU_n _ _ (by omega)).trans ((pmU_n _ _ (by omega)).trans ((pmU_n _ _ (by omega)).trans ((pmU_n _ _ (by omega)).trans hR.2.2.2.2.2.2.2.2.2.2.2.1)))), (congrFun enk1 (m + 12)).trans ((pmU_n _ _ (by omega)).trans ((pmU_n _ _ (by omega)).trans ((pmU_n _ _ (by omega)).trans ((pmU_n _ _ (by omega)).trans hR.2.2.2.2.2.2.2.2.2.2.2.2.1)))), (congrFun enk1 (m + 13)).trans ((pmU_n _ _ (by omega)).trans ((pmU_n _ _ (by omega)).trans ((pmU_n _ _ (by omega)).trans ((pmU_n _ _ (by omega)).trans hR.2.2.2.2.2.2.2.2.2.2.2.2.2.1)))), (congrFun enk1 (m + 14)).trans ((pmU_n _ _ (by omega)).trans ((pmU_n _ _ (by omega)).trans ((pmU_n _ _ (by omega)).trans ((pmU_n _ _ (by omega)).trans hR.2.2.2.2.2.2.2.2.2.2.2.2.2.2.1)))), (congrFun enk1 (m + 15)).trans ((pmU_n _ _ (by omega)).trans ((pmU_n _ _ (by omega)).trans ((pmU_n _ _ (by omega)).trans ((pmU_n _ _ (by omega)).trans hR.2.2.2.2.2.2.2.2.2.2.2.2.2.2.2.1)))), (congrFun enk1 (m + 16)).trans ((pmU_n _ _ (by omega)).trans ((pmU_n _ _ (by omega)).trans ((pmU_n _ _ (by omega)).trans ((pmU_n _ _ (by omega)).trans hR.2.2.2.2.2.2.2.2.2.2.2.2.2.2.2.2))))⟩
        have sk1 := hs.trans gsk1
        refine go_aload_n dRef_extra_79 rfl ?_
        refine go_getf dRef_extra_80 qf_Ref_86 hRk1.1 rfl ?_
        refine go_top (y := nI (α.1.2.2.2.2.2.2.2.2 + 1)) (by show g 10 + 1 = _; rw [ho.2.2.2.1]; exact nI_a1 _) ?_
        refine go_iret dRef_extra_83 rfl rfl ?_ (Nat.le_of_ble_eq_true rfl) (Nat.le_of_ble_eq_true rfl)
        exact retR_ok (β := ((α.1.1, (α.1.2.1, α.1.2.2.1, α.1.2.2.2.1, α.1.2.2.2.2.1, exAdd α.1.2.2.2.2.2 a1)), α.2)) (by rw [exF, if_neg (fun q => q t1), if_neg (fun q => q c2), if_neg (fun q => c3 (ho.2.2.2.1.trans (congrArg nI (Nat.le_antisymm hx6 q))))]) hRk1 ⟨⟨ho.1, ho.2.1, ho.2.2.1, ⟨by show g 10 + 1 = _; rw [ho.2.2.2.1]; exact nI_a1 _, eAr_add ho.2.2.2.2⟩⟩, hr.2.1, hr.2.2.1, hr.2.2.2⟩ rfl sk1
      · refine go_iconst (v := 3) dRef_extra_32 (by decide) ?_
        refine go_goto (tgt := 37) dRef_extra_33 ?_
        refine go_putf dRef_extra_37 qf_Ref_59 pw_8_0 hR.1 rfl rfl ?_
        refine go_aload_n dRef_extra_40 rfl ?_
        refine go_getf dRef_extra_41 qf_Ref_59 (pmU_s _ _ _) rfl ?_
        refine go_if_le (tgt := 49) dRef_extra_44 (fun cc => absurd cc (by decide)) (fun _ => ?_)
        refine go_nm (fun hnk2 enk2 => ?_)
        have gsk2 : Sm h hnk2 m 17 := by rw [enk2]; exact (Sm.put' (Sm.refl _ _ _) _ (by omega) (by omega))
        have hRk2 : RfA hnk2 m (upd g 0 3) (A) := ⟨(congrFun enk2 m).trans (pmU_s _ _ _), (congrFun enk2 (m + 1)).trans ((pmU_n _ _ (by omega)).trans hR.2.1), (congrFun enk2 (m + 2)).trans ((pmU_n _ _ (by omega)).trans hR.2.2.1), (congrFun enk2 (m + 3)).trans ((pmU_n _ _ (by omega)).trans hR.2.2.2.1), (congrFun enk2 (m + 4)).trans ((pmU_n _ _ (by omega)).trans hR.2.2.2.2.1), (congrFun enk2 (m + 5)).trans ((pmU_n _ _ (by omega)).trans hR.2.2.2.2.2.1), (congrFun enk2 (m + 6)).trans ((pmU_n _ _ (by omega)).trans hR.2.2.2.2.2.2.1), (congrFun enk2 (m + 7)).trans ((pmU_n _ _ (by omega)).trans hR.2.2.2.2.2.2.2.1), (congrFun enk2 (m + 8)).trans ((pmU_n _ _ (by omega)).trans hR.2.2.2.2.2.2.2.2.1), (congrFun enk2 (m + 9)).trans ((pmU_n _ _ (by omega)).trans hR.2.2.2.2.2.2.2.2.2.1), (congrFun enk2 (m + 10)).trans ((pmU_n _ _ (by omega)).trans hR.2.2.2.2.2.2.2.2.2.2.1), (congrFun enk2 (m + 11)).trans ((pmU_n _ _ (by omega)).trans hR.2.2.2.2.2.2.2.2.2.2.2.1), (congrFun enk2 (m + 12)).trans ((pmU_n _ _ (by omega)).trans hR.2.2.2.2.2.2.2.2.2.2.2.2.1), (congrFun enk2 (m + 13)).trans ((pmU_n _ _ (by omega)).trans hR.2.2.2.2.2.2.2.2.2.2.2.2.2.1), (congrFun enk2 (m + 14)).trans ((pmU_n _ _ (by omega)).trans hR.2.2.2.2.2.2.2.2.2.2.2.2.2.2.1), (congrFun enk2 (m + 15)).trans ((pmU_n _ _ (by omega)).trans hR.2.2.2.2.2.2.2.2.2.2.2.2.2.2.2.1), (congrFun enk2 (m + 16)).trans ((pmU_n _ _ (by omega)).trans hR.2.2.2.2.2.2.2.2.2.2.2.2.2.2.2.2)⟩
        have sk2 := hs.trans gsk2
        refine go_iconst (v := 0) dRef_extra_47 (by decide) ?_
        refine go_iret dRef_extra_48 rfl rfl ?_ (Nat.le_of_ble_eq_true rfl) (Nat.le_of_ble_eq_true rfl)
        exact retR_no (by rw [exF, if_neg (fun q => q t1), if_neg (fun q => q c2), if_pos (Nat.le_of_eq ((nI_inj (a := 6) (by omega) (by omega)).mp (c3.symm.trans ho.2.2.2.1)))]) hRk2 hr rfl sk2
    · refine go_iconst (v := 2) dRef_extra_19 (by decide) ?_
      refine go_goto (tgt := 37) dRef_extra_20 ?_
      refine go_putf dRef_extra_37 qf_Ref_59 pw_8_0 hR.1 rfl rfl ?_
      refine go_aload_n dRef_extra_40 rfl ?_
      refine go_getf dRef_extra_41 qf_Ref_59 (pmU_s _ _ _) rfl ?_
      refine go_if_le (tgt := 49) dRef_extra_44 (fun cc => absurd cc (by decide)) (fun _ => ?_)
      refine go_nm (fun hnk3 enk3 => ?_)
      have gsk3 : Sm h hnk3 m 17 := by rw [enk3]; exact (Sm.put' (Sm.refl _ _ _) _ (by omega) (by omega))
      have hRk3 : RfA hnk3 m (upd g 0 2) (A) := ⟨(congrFun enk3 m).trans (pmU_s _ _ _), (congrFun enk3 (m + 1)).trans ((pmU_n _ _ (by omega)).trans hR.2.1), (congrFun enk3 (m + 2)).trans ((pmU_n _ _ (by omega)).trans hR.2.2.1), (congrFun enk3 (m + 3)).trans ((pmU_n _ _ (by omega)).trans hR.2.2.2.1), (congrFun enk3 (m + 4)).trans ((pmU_n _ _ (by omega)).trans hR.2.2.2.2.1), (congrFun enk3 (m + 5)).trans ((pmU_n _ _ (by omega)).trans hR.2.2.2.2.2.1), (congrFun enk3 (m + 6)).trans ((pmU_n _ _ (by omega)).trans hR.2.2.2.2.2.2.1), (congrFun enk3 (m + 7)).trans ((pmU_n _ _ (by omega)).trans hR.2.2.2.2.2.2.2.1), (congrFun enk3 (m + 8)).trans ((pmU_n _ _ (by omega)).trans hR.2.2.2.2.2.2.2.2.1), (congrFun enk3 (m + 9)).trans ((pmU_n _ _ (by omega)).trans hR.2.2.2.2.2.2.2.2.2.1), (congrFun enk3 (m + 10)).trans ((pmU_n _ _ (by omega)).trans hR.2.2.2.2.2.2.2.2.2.2.1), (congrFun enk3 (m + 11)).trans ((pmU_n _ _ (by omega)).trans hR.2.2.2.2.2.2.2.2.2.2.2.1), (congrFun enk3 (m + 12)).trans ((pmU_n _ _ (by omega)).trans hR.2.2.2.2.2.2.2.2.2.2.2.2.1), (congrFun enk3 (m + 13)).trans ((pmU_n _ _ (by omega)).trans hR.2.2.2.2.2.2.2.2.2.2.2.2.2.1), (congrFun enk3 (m + 14)).trans ((pmU_n _ _ (by omega)).trans hR.2.2.2.2.2.2.2.2.2.2.2.2.2.2.1), (congrFun enk3 (m + 15)).trans ((pmU_n _ _ (by omega)).trans hR.2.2.2.2.2.2.2.2.2.2.2.2.2.2.2.1), (congrFun enk3 (m + 16)).trans ((pmU_n _ _ (by omega)).trans hR.2.2.2.2.2.2.2.2.2.2.2.2.2.2.2.2)⟩
      have sk3 := hs.trans gsk3
      refine go_iconst (v := 0) dRef_extra_47 (by decide) ?_
      refine go_iret dRef_extra_48 rfl rfl ?_ (Nat.le_of_ble_eq_true rfl) (Nat.le_of_ble_eq_true rfl)
      exact retR_no (by rw [exF, if_neg (fun q => q t1), if_pos c2]) hRk3 hr rfl sk3
  · refine go_iconst (v := 1) dRef_extra_8 (by decide) ?_
    refine go_goto (tgt := 37) dRef_extra_9 ?_
    refine go_putf dRef_extra_37 qf_Ref_59 pw_8_0 hR.1 rfl rfl ?_
    refine go_aload_n dRef_extra_40 rfl ?_
    refine go_getf dRef_extra_41 qf_Ref_59 (pmU_s _ _ _) rfl ?_
    refine go_if_le (tgt := 49) dRef_extra_44 (fun cc => absurd cc (by decide)) (fun _ => ?_)
    refine go_nm (fun hnk4 enk4 => ?_)
    have gsk4 : Sm h hnk4 m 17 := by rw [enk4]; exact (Sm.put' (Sm.refl _ _ _) _ (by omega) (by omega))
    have hRk4 : RfA hnk4 m (upd g 0 1) (A) := ⟨(congrFun enk4 m).trans (pmU_s _ _ _), (congrFun enk4 (m + 1)).trans ((pmU_n _ _ (by omega)).trans hR.2.1), (congrFun enk4 (m + 2)).trans ((pmU_n _ _ (by omega)).trans hR.2.2.1), (congrFun enk4 (m + 3)).trans ((pmU_n _ _ (by omega)).trans hR.2.2.2.1), (congrFun enk4 (m + 4)).trans ((pmU_n _ _ (by omega)).trans hR.2.2.2.2.1), (congrFun enk4 (m + 5)).trans ((pmU_n _ _ (by omega)).trans hR.2.2.2.2.2.1), (congrFun enk4 (m + 6)).trans ((pmU_n _ _ (by omega)).trans hR.2.2.2.2.2.2.1), (congrFun enk4 (m + 7)).trans ((pmU_n _ _ (by omega)).trans hR.2.2.2.2.2.2.2.1), (congrFun enk4 (m + 8)).trans ((pmU_n _ _ (by omega)).trans hR.2.2.2.2.2.2.2.2.1), (congrFun enk4 (m + 9)).trans ((pmU_n _ _ (by omega)).trans hR.2.2.2.2.2.2.2.2.2.1), (congrFun enk4 (m + 10)).trans ((pmU_n _ _ (by omega)).trans hR.2.2.2.2.2.2.2.2.2.2.1), (congrFun enk4 (m + 11)).trans ((pmU_n _ _ (by omega)).trans hR.2.2.2.2.2.2.2.2.2.2.2.1), (congrFun enk4 (m + 12)).trans ((pmU_n _ _ (by omega)).trans hR.2.2.2.2.2.2.2.2.2.2.2.2.1), (congrFun enk4 (m + 13)).trans ((pmU_n _ _ (by omega)).trans hR.2.2.2.2.2.2.2.2.2.2.2.2.2.1), (congrFun enk4 (m + 14)).trans ((pmU_n _ _ (by omega)).trans hR.2.2.2.2.2.2.2.2.2.2.2.2.2.2.1), (congrFun enk4 (m + 15)).trans ((pmU_n _ _ (by omega)).trans hR.2.2.2.2.2.2.2.2.2.2.2.2.2.2.2.1), (congrFun enk4 (m + 16)).trans ((pmU_n _ _ (by omega)).trans hR.2.2.2.2.2.2.2.2.2.2.2.2.2.2.2.2)⟩
    have sk4 := hs.trans gsk4
    refine go_iconst (v := 0) dRef_extra_47 (by decide) ?_
    refine go_iret dRef_extra_48 rfl rfl ?_ (Nat.le_of_ble_eq_true rfl) (Nat.le_of_ble_eq_true rfl)
    exact retR_no (by rw [exF, if_pos (ht.mp c1)]) hRk4 hr rfl sk4
set_option maxHeartbeats 4000000 in
theorem r_byteOf {E : pmEv} {h : pmH} {m : Nat} {g : Nat → Int32} {A : Nat → Nat → Int32} {α : aPF} {a1 a2 : Int32} (hR : RfA h m g A) (hr : RR g A α) (hv : IvA α) : Call E mRef_byteOf [.ref m, .int a1, .int a2] h none 0 0 (RetR m h [1, 3, 2, 4] (some (.int 0)) (boF α a1 a2)) := by
  have hs : Sm h h m 17 := Sm.refl _ _ _
  have ho := hr.1
  have ht : g 1 = 0 ↔ ¬ α.1.1 = true := by rw [ho.1]; exact bI_0
  have hok := hv.1.1
  have hb := hok.b
  have hkk := hok.k
  have hwh := hok.w
  have hch := chN_le α.1.2.1.2.2.2
  have hc64 := hv.1.2.1.1
  have hx6 := hv.1.2.2.1.1
  refine call_of (L := [some (.ref m), some (.int a1), some (.int a2)]) ok_mRef_byteOf (Nat.le_of_ble_eq_true rfl) ?_
  refine go_aload_n dRef_byteOf_0 rfl ?_
  refine go_aload_n dRef_byteOf_1 rfl ?_
  refine go_getf dRef_byteOf_2 qf_Ref_67 hR.1 rfl ?_
  refine go_if_ne (tgt := 12) dRef_byteOf_5 (fun c1 => ?_) (fun c1 => ?_)
  · have t1 : α.1.1 = true := Decidable.not_not.mp fun q => c1 (ht.mpr q)
    have hd := (ho.2.1 t1).1
    refine go_iload_n dRef_byteOf_12 rfl ?_
    refine go_if_lt (tgt := 24) dRef_byteOf_13 (fun c2 => ?_) (fun c2 => ?_)
    · refine go_iconst (v := 2) dRef_byteOf_24 (by decide) ?_
      refine go_goto (tgt := 55) dRef_byteOf_25 ?_
      refine go_putf dRef_byteOf_55 qf_Ref_59 pw_8_0 hR.1 rfl rfl ?_
      refine go_aload_n dRef_byteOf_58 rfl ?_
      refine go_getf dRef_byteOf_59 qf_Ref_59 (pmU_s _ _ _) rfl ?_
      refine go_if_le (tgt := 67) dRef_byteOf_62 (fun cc => absurd cc (by decide)) (fun _ => ?_)
      refine go_nm (fun hnk1 enk1 => ?_)
      have gsk1 : Sm h hnk1 m 17 := by rw [enk1]; exact (Sm.put' (Sm.refl _ _ _) _ (by omega) (by omega))
      have hRk1 : RfA hnk1 m (upd g 0 2) (A) := ⟨(congrFun enk1 m).trans (pmU_s _ _ _), (congrFun enk1 (m + 1)).trans ((pmU_n _ _ (by omega)).trans hR.2.1), (congrFun enk1 (m + 2)).trans ((pmU_n _ _ (by omega)).trans hR.2.2.1), (congrFun enk1 (m + 3)).trans ((pmU_n _ _ (by omega)).trans hR.2.2.2.1), (congrFun enk1 (m + 4)).trans ((pmU_n _ _ (by omega)).trans hR.2.2.2.2.1), (congrFun enk1 (m + 5)).trans ((pmU_n _ _ (by omega)).trans hR.2.2.2.2.2.1), (congrFun enk1 (m + 6)).trans ((pmU_n _ _ (by omega)).trans hR.2.2.2.2.2.2.1), (congrFun enk1 (m + 7)).trans ((pmU_n _ _ (by omega)).trans hR.2.2.2.2.2.2.2.1), (congrFun enk1 (m + 8)).trans ((pmU_n _ _ (by omega)).trans hR.2.2.2.2.2.2.2.2.1), (congrFun enk1 (m + 9)).trans ((pmU_n _ _ (by omega)).trans hR.2.2.2.2.2.2.2.2.2.1), (congrFun enk1 (m + 10)).trans ((pmU_n _ _ (by omega)).trans hR.2.2.2.2.2.2.2.2.2.2.1), (congrFun enk1 (m + 11)).trans ((pmU_n _ _ (by omega)).trans hR.2.2.2.2.2.2.2.2.2.2.2.1), (congrFun enk1 (m + 12)).trans ((pmU_n _ _ (by omega)).trans hR.2.2.2.2.2.2.2.2.2.2.2.2.1), (congrFun enk1 (m + 13)).trans ((pmU_n _ _ (by omega)).trans hR.2.2.2.2.2.2.2.2.2.2.2.2.2.1), (congrFun enk1 (m + 14)).trans ((pmU_n _ _ (by omega)).trans hR.2.2.2.2.2.2.2.2.2.2.2.2.2.2.1), (congrFun enk1 (m + 15)).trans ((pmU_n _ _ (by omega)).trans hR.2.2.2.2.2.2.2.2.2.2.2.2.2.2.2.1), (congrFun enk1 (m + 16)).trans ((pmU_n _ _ (by omega)).trans hR.2.2.2.2.2.2.2.2.2.2.2.2.2.2.2.2)⟩
      have sk1 := hs.trans gsk1
      refine go_iconst (v := 0) dRef_byteOf_65 (by decide) ?_
      refine go_iret dRef_byteOf_66 rfl rfl ?_ (Nat.le_of_ble_eq_true rfl) (Nat.le_of_ble_eq_true rfl)
      exact retR_no (by rw [boF, if_neg (fun q => q t1), if_pos (fun q => absurd q.1 (Int32.not_le.mpr c2))]) hRk1 hr rfl sk1
    · refine go_iload_n dRef_byteOf_16 rfl ?_
      refine go_aload_n dRef_byteOf_17 rfl ?_
      refine go_getf dRef_byteOf_18 qf_Ref_86 hR.1 rfl ?_
      refine go_top (y := nI α.1.2.2.2.2.2.2.2.2) (by exact ho.2.2.2.1) ?_
      refine go_icmp_lt (tgt := 28) dRef_byteOf_21 (fun c3 => ?_) (fun c3 => ?_)
      · obtain ⟨k5, hk5, rfl⟩ := has_ex (by omega) ⟨Int32.not_lt.mp c2, c3⟩
        have hsz := ho.2.2.2.2.2.1 k5 hk5
        refine go_iload_n dRef_byteOf_28 rfl ?_
        refine go_statP dRef_byteOf_29 ok_mRef_isByte st_mRef_isByte qm_Ref_89 r_isByte ?_ (hnp := np_mRef_isByte)
        refine go_ifne_b (tgt := 39) dRef_byteOf_32 (fun c4 => ?_) (fun c4 => ?_)
        · refine go_aload_n dRef_byteOf_39 rfl ?_
          refine go_getf dRef_byteOf_40 qf_Ref_22 hR.1 rfl ?_
          refine go_iload_n dRef_byteOf_43 rfl ?_
          refine go_iald dRef_byteOf_44 hR.2.2.2.2.2.1 (by exact vp_in_nI (by omega) (by omega)) (congrArg _ (nI_clamp (by omega))) ?_
          refine go_top (y := nI (α.1.2.2.2.2.2.2.1 k5)) (by exact hsz.1) ?_
          refine go_bipush (v := 40) dRef_byteOf_45 (by decide) ?_
          refine go_icmp_ne (tgt := 54) dRef_byteOf_47 (fun c5 => ?_) (fun c5 => ?_)
          · refine go_iconst (v := 0) dRef_byteOf_54 (by decide) ?_
            refine go_putf dRef_byteOf_55 qf_Ref_59 pw_8_0 hR.1 rfl rfl ?_
            refine go_aload_n dRef_byteOf_58 rfl ?_
            refine go_getf dRef_byteOf_59 qf_Ref_59 (pmU_s _ _ _) rfl ?_
            refine go_if_le (tgt := 67) dRef_byteOf_62 (fun _ => ?_) (fun cc => absurd (by decide) cc)
            have hlt : α.1.2.2.2.2.2.2.1 k5 < 40 := Nat.lt_of_le_of_ne hsz.2 fun q => c5 (by rw [q]; rfl)
            refine go_aload_n dRef_byteOf_67 rfl ?_
            refine go_getf dRef_byteOf_68 qf_Ref_25 (pmU_s _ _ _) rfl ?_
            refine go_bipush (v := 40) dRef_byteOf_71 (by decide) ?_
            refine go_iload_n dRef_byteOf_73 rfl ?_
            refine go_imul dRef_byteOf_74 ?_
            refine go_aload_n dRef_byteOf_75 rfl ?_
            refine go_getf dRef_byteOf_76 qf_Ref_22 (pmU_s _ _ _) rfl ?_
            refine go_iload_n dRef_byteOf_79 rfl ?_
            refine go_iald dRef_byteOf_80 ((pmU_n _ _ (by omega)).trans hR.2.2.2.2.2.1) (by exact vp_in_nI (by omega) (by omega)) (congrArg _ (nI_clamp (by omega))) ?_
            refine go_iadd dRef_byteOf_81 ?_
            refine go_top (y := nI (40 * k5 + α.1.2.2.2.2.2.2.1 k5)) (by rw [show (40 : Int32) = nI 40 from rfl, pk_mul, hsz.1, nI_add]) ?_
            refine go_iload_n dRef_byteOf_82 rfl ?_
            refine go_iast dRef_byteOf_83 ((pmU_n _ _ (by omega)).trans hR.2.2.2.2.2.2.1) (by exact vp_in_nI (by omega) (by omega)) (nI_clamp (by omega)) ?_
            refine go_aload_n dRef_byteOf_84 rfl ?_
            refine go_getf dRef_byteOf_85 qf_Ref_22 ((pmU_n _ _ (by omega)).trans (pmU_s _ _ _)) rfl ?_
            refine go_iload_n dRef_byteOf_88 rfl ?_
            refine go_dup2 dRef_byteOf_89 rfl rfl ?_
            refine go_iald dRef_byteOf_90 ((pmU_n _ _ (by omega)).trans ((pmU_n _ _ (by omega)).trans hR.2.2.2.2.2.1)) (by exact vp_in_nI (by omega) (by omega)) (congrArg _ (nI_clamp (by omega))) ?_
            refine go_iconst (v := 1) dRef_byteOf_91 (by decide) ?_
            refine go_iadd dRef_byteOf_92 ?_
            refine go_iast dRef_byteOf_93 ((pmU_n _ _ (by omega)).trans ((pmU_n _ _ (by omega)).trans hR.2.2.2.2.2.1)) (by exact vp_in_nI (by omega) (by omega)) (nI_clamp (by omega)) ?_
            refine go_nm (fun hnk2 enk2 => ?_)
            have gsk2 : Sm h hnk2 m 17 := by rw [enk2]; exact (Sm.put' (Sm.put' (Sm.put' (Sm.refl _ _ _) _ (by omega) (by omega)) _ (by omega) (by omega)) _ (by omega) (by omega))
            have hRk2 : RfA hnk2 m (upd g 0 0) (uA (uA A 4 (upd (A 4) k5 (A 4 k5 + 1))) 5 (upd (A 5) (40 * k5 + α.1.2.2.2.2.2.2.1 k5) a2)) := ⟨(congrFun enk2 m).trans ((pmU_n _ _ (by omega)).trans ((pmU_n _ _ (by omega)).trans (pmU_s _ _ _))), (congrFun enk2 (m + 1)).trans ((pmU_n _ _ (by omega)).trans ((pmU_n _ _ (by omega)).trans ((pmU_n _ _ (by omega)).trans hR.2.1))), (congrFun enk2 (m + 2)).trans ((pmU_n _ _ (by omega)).trans ((pmU_n _ _ (by omega)).trans ((pmU_n _ _ (by omega)).trans hR.2.2.1))), (congrFun enk2 (m + 3)).trans ((pmU_n _ _ (by omega)).trans ((pmU_n _ _ (by omega)).trans ((pmU_n _ _ (by omega)).trans hR.2.2.2.1))), (congrFun enk2 (m + 4)).trans ((pmU_n _ _ (by omega)).trans ((pmU_n _ _ (by omega)).trans ((pmU_n _ _ (by omega)).trans hR.2.2.2.2.1))), (congrFun enk2 (m + 5)).trans (pmU_s _ _ _), (congrFun enk2 (m + 6)).trans ((pmU_n _ _ (by omega)).trans (pmU_s _ _ _)), (congrFun enk2 (m + 7)).trans ((pmU_n _ _ (by omega)).trans ((pmU_n _ _ (by omega)).trans ((pmU_n _ _ (by omega)).trans hR.2.2.2.2.2.2.2.1))), (congrFun enk2 (m + 8)).trans ((pmU_n _ _ (by omega)).trans ((pmU_n _ _ (by omega)).trans ((pmU_n _ _ (by omega)).trans hR.2.2.2.2.2.2.2.2.1))), (congrFun enk2 (m + 9)).trans ((pmU_n _ _ (by omega)).trans ((pmU_n _ _ (by omega)).trans ((pmU_n _ _ (by omega)).trans hR.2.2.2.2.2.2.2.2.2.1))), (congrFun enk2 (m + 10)).trans ((pmU_n _ _ (by omega)).trans ((pmU_n _ _ (by omega)).trans ((pmU_n _ _ (by omega)).trans hR.2.2.2.2.2.2.2.2.2.2.1))), (congrFun enk2 (m + 11)).trans ((pmU_n _ _ (by omega)).trans ((pmU_n _ _ (by omega)).trans ((pmU_n _ _ (by omega)).trans hR.2.2.2.2.2.2.2.2.2.2.2.1))), (congrFun enk2 (m + 12)).trans ((pmU_n _ _ (by omega)).trans ((pmU_n _ _ (by omega)).trans ((pmU_n _ _ (by omega)).trans hR.2.2.2.2.2.2.2.2.2.2.2.2.1))), (congrFun enk2 (m + 13)).trans ((pmU_n _ _ (by omega)).trans ((pmU_n _ _ (by omega)).trans ((pmU_n _ _ (by omega)).trans hR.2.2.2.2.2.2.2.2.2.2.2.2.2.1))), (congrFun enk2 (m + 14)).trans ((pmU_n _ _ (by omega)).trans ((pmU_n _ _ (by omega)).trans ((pmU_n _ _ (by omega)).trans hR.2.2.2.2.2.2.2.2.2.2.2.2.2.2.1))), (congrFun enk2 (m + 15)).trans ((pmU_n _ _ (by omega)).trans ((pmU_n _ _ (by omega)).trans ((pmU_n _ _ (by omega)).trans hR.2.2.2.2.2.2.2.2.2.2.2.2.2.2.2.1))), (congrFun enk2 (m + 16)).trans ((pmU_n _ _ (by omega)).trans ((pmU_n _ _ (by omega)).trans ((pmU_n _ _ (by omega)).trans hR.2.2.2.2.2.2.2.2.2.2.2.2.2.2.2.2)))⟩
            have sk2 := hs.trans gsk2
            refine go_aload_n dRef_byteOf_94 rfl ?_
            refine go_getf dRef_byteOf_95 qf_Ref_22 hRk2.1 rfl ?_
            refine go_iload_n dRef_byteOf_98 rfl ?_
            refine go_iald dRef_byteOf_99 hRk2.2.2.2.2.2.1 (by exact vp_in_nI (by omega) (by omega)) (congrArg _ (nI_clamp (by omega))) ?_
            refine go_top (y := nI (α.1.2.2.2.2.2.2.1 k5 + 1)) (by show upd (A 4) k5 (A 4 k5 + 1) k5 = _; rw [pk_us, hsz.1]; exact nI_a1 _) ?_
            refine go_iret dRef_byteOf_100 rfl rfl ?_ (Nat.le_of_ble_eq_true rfl) (Nat.le_of_ble_eq_true rfl)
            exact retR_ok (β := ((α.1.1, (α.1.2.1, α.1.2.2.1, α.1.2.2.2.1, α.1.2.2.2.2.1, exAddB α.1.2.2.2.2.2 k5 a2)), α.2)) (by rw [boF, if_neg (fun q => q t1), if_neg (fun q => q ⟨Int32.not_lt.mp c2, c3⟩), if_neg (fun q => q c4), nI_clamp (n := k5) (by omega), if_neg (Nat.not_le.mpr hlt)]) hRk2 ⟨⟨ho.1, ho.2.1, ho.2.2.1, ⟨ho.2.2.2.1, eAr_addB ho.2.2.2.2 hk5 hlt hsz.1⟩⟩, hr.2.1, hr.2.2.1, hr.2.2.2⟩ rfl sk2
          · refine go_iconst (v := 4) dRef_byteOf_50 (by decide) ?_
            refine go_goto (tgt := 55) dRef_byteOf_51 ?_
            refine go_putf dRef_byteOf_55 qf_Ref_59 pw_8_0 hR.1 rfl rfl ?_
            refine go_aload_n dRef_byteOf_58 rfl ?_
            refine go_getf dRef_byteOf_59 qf_Ref_59 (pmU_s _ _ _) rfl ?_
            refine go_if_le (tgt := 67) dRef_byteOf_62 (fun cc => absurd cc (by decide)) (fun _ => ?_)
            refine go_nm (fun hnk3 enk3 => ?_)
            have gsk3 : Sm h hnk3 m 17 := by rw [enk3]; exact (Sm.put' (Sm.refl _ _ _) _ (by omega) (by omega))
            have hRk3 : RfA hnk3 m (upd g 0 4) (A) := ⟨(congrFun enk3 m).trans (pmU_s _ _ _), (congrFun enk3 (m + 1)).trans ((pmU_n _ _ (by omega)).trans hR.2.1), (congrFun enk3 (m + 2)).trans ((pmU_n _ _ (by omega)).trans hR.2.2.1), (congrFun enk3 (m + 3)).trans ((pmU_n _ _ (by omega)).trans hR.2.2.2.1), (congrFun enk3 (m + 4)).trans ((pmU_n _ _ (by omega)).trans hR.2.2.2.2.1), (congrFun enk3 (m + 5)).trans ((pmU_n _ _ (by omega)).trans hR.2.2.2.2.2.1), (congrFun enk3 (m + 6)).trans ((pmU_n _ _ (by omega)).trans hR.2.2.2.2.2.2.1), (congrFun enk3 (m + 7)).trans ((pmU_n _ _ (by omega)).trans hR.2.2.2.2.2.2.2.1), (congrFun enk3 (m + 8)).trans ((pmU_n _ _ (by omega)).trans hR.2.2.2.2.2.2.2.2.1), (congrFun enk3 (m + 9)).trans ((pmU_n _ _ (by omega)).trans hR.2.2.2.2.2.2.2.2.2.1), (congrFun enk3 (m + 10)).trans ((pmU_n _ _ (by omega)).trans hR.2.2.2.2.2.2.2.2.2.2.1), (congrFun enk3 (m + 11)).trans ((pmU_n _ _ (by omega)).trans hR.2.2.2.2.2.2.2.2.2.2.2.1), (congrFun enk3 (m + 12)).trans ((pmU_n _ _ (by omega)).trans hR.2.2.2.2.2.2.2.2.2.2.2.2.1), (congrFun enk3 (m + 13)).trans ((pmU_n _ _ (by omega)).trans hR.2.2.2.2.2.2.2.2.2.2.2.2.2.1), (congrFun enk3 (m + 14)).trans ((pmU_n _ _ (by omega)).trans hR.2.2.2.2.2.2.2.2.2.2.2.2.2.2.1), (congrFun enk3 (m + 15)).trans ((pmU_n _ _ (by omega)).trans hR.2.2.2.2.2.2.2.2.2.2.2.2.2.2.2.1), (congrFun enk3 (m + 16)).trans ((pmU_n _ _ (by omega)).trans hR.2.2.2.2.2.2.2.2.2.2.2.2.2.2.2.2)⟩
            have sk3 := hs.trans gsk3
            refine go_iconst (v := 0) dRef_byteOf_65 (by decide) ?_
            refine go_iret dRef_byteOf_66 rfl rfl ?_ (Nat.le_of_ble_eq_true rfl) (Nat.le_of_ble_eq_true rfl)
            exact retR_no (by rw [boF, if_neg (fun q => q t1), if_neg (fun q => q ⟨Int32.not_lt.mp c2, c3⟩), if_neg (fun q => q c4), nI_clamp (n := k5) (by omega), if_pos (Nat.le_of_eq ((nI_inj (a := 40) (by omega) (by omega)).mp c5.symm))]) hRk3 hr rfl sk3
        · refine go_iconst (v := 3) dRef_byteOf_35 (by decide) ?_
          refine go_goto (tgt := 55) dRef_byteOf_36 ?_
          refine go_putf dRef_byteOf_55 qf_Ref_59 pw_8_0 hR.1 rfl rfl ?_
          refine go_aload_n dRef_byteOf_58 rfl ?_
          refine go_getf dRef_byteOf_59 qf_Ref_59 (pmU_s _ _ _) rfl ?_
          refine go_if_le (tgt := 67) dRef_byteOf_62 (fun cc => absurd cc (by decide)) (fun _ => ?_)
          refine go_nm (fun hnk4 enk4 => ?_)
          have gsk4 : Sm h hnk4 m 17 := by rw [enk4]; exact (Sm.put' (Sm.refl _ _ _) _ (by omega) (by omega))
          have hRk4 : RfA hnk4 m (upd g 0 3) (A) := ⟨(congrFun enk4 m).trans (pmU_s _ _ _), (congrFun enk4 (m + 1)).trans ((pmU_n _ _ (by omega)).trans hR.2.1), (congrFun enk4 (m + 2)).trans ((pmU_n _ _ (by omega)).trans hR.2.2.1), (congrFun enk4 (m + 3)).trans ((pmU_n _ _ (by omega)).trans hR.2.2.2.1), (congrFun enk4 (m + 4)).trans ((pmU_n _ _ (by omega)).trans hR.2.2.2.2.1), (congrFun enk4 (m + 5)).trans ((pmU_n _ _ (by omega)).trans hR.2.2.2.2.2.1), (congrFun enk4 (m + 6)).trans ((pmU_n _ _ (by omega)).trans hR.2.2.2.2.2.2.1), (congrFun enk4 (m + 7)).trans ((pmU_n _ _ (by omega)).trans hR.2.2.2.2.2.2.2.1), (congrFun enk4 (m + 8)).trans ((pmU_n _ _ (by omega)).trans hR.2.2.2.2.2.2.2.2.1), (congrFun enk4 (m + 9)).trans ((pmU_n _ _ (by omega)).trans hR.2.2.2.2.2.2.2.2.2.1), (congrFun enk4 (m + 10)).trans ((pmU_n _ _ (by omega)).trans hR.2.2.2.2.2.2.2.2.2.2.1), (congrFun enk4 (m + 11)).trans ((pmU_n _ _ (by omega)).trans hR.2.2.2.2.2.2.2.2.2.2.2.1), (congrFun enk4 (m + 12)).trans ((pmU_n _ _ (by omega)).trans hR.2.2.2.2.2.2.2.2.2.2.2.2.1), (congrFun enk4 (m + 13)).trans ((pmU_n _ _ (by omega)).trans hR.2.2.2.2.2.2.2.2.2.2.2.2.2.1), (congrFun enk4 (m + 14)).trans ((pmU_n _ _ (by omega)).trans hR.2.2.2.2.2.2.2.2.2.2.2.2.2.2.1), (congrFun enk4 (m + 15)).trans ((pmU_n _ _ (by omega)).trans hR.2.2.2.2.2.2.2.2.2.2.2.2.2.2.2.1), (congrFun enk4 (m + 16)).trans ((pmU_n _ _ (by omega)).trans hR.2.2.2.2.2.2.2.2.2.2.2.2.2.2.2.2)⟩
          have sk4 := hs.trans gsk4
          refine go_iconst (v := 0) dRef_byteOf_65 (by decide) ?_
          refine go_iret dRef_byteOf_66 rfl rfl ?_ (Nat.le_of_ble_eq_true rfl) (Nat.le_of_ble_eq_true rfl)
          exact retR_no (by rw [boF, if_neg (fun q => q t1), if_neg (fun q => q ⟨Int32.not_lt.mp c2, c3⟩), if_pos c4]) hRk4 hr rfl sk4
      · refine go_iconst (v := 2) dRef_byteOf_24 (by decide) ?_
        refine go_goto (tgt := 55) dRef_byteOf_25 ?_
        refine go_putf dRef_byteOf_55 qf_Ref_59 pw_8_0 hR.1 rfl rfl ?_
        refine go_aload_n dRef_byteOf_58 rfl ?_
        refine go_getf dRef_byteOf_59 qf_Ref_59 (pmU_s _ _ _) rfl ?_
        refine go_if_le (tgt := 67) dRef_byteOf_62 (fun cc => absurd cc (by decide)) (fun _ => ?_)
        refine go_nm (fun hnk5 enk5 => ?_)
        have gsk5 : Sm h hnk5 m 17 := by rw [enk5]; exact (Sm.put' (Sm.refl _ _ _) _ (by omega) (by omega))
        have hRk5 : RfA hnk5 m (upd g 0 2) (A) := ⟨(congrFun enk5 m).trans (pmU_s _ _ _), (congrFun enk5 (m + 1)).trans ((pmU_n _ _ (by omega)).trans hR.2.1), (congrFun enk5 (m + 2)).trans ((pmU_n _ _ (by omega)).trans hR.2.2.1), (congrFun enk5 (m + 3)).trans ((pmU_n _ _ (by omega)).trans hR.2.2.2.1), (congrFun enk5 (m + 4)).trans ((pmU_n _ _ (by omega)).trans hR.2.2.2.2.1), (congrFun enk5 (m + 5)).trans ((pmU_n _ _ (by omega)).trans hR.2.2.2.2.2.1), (congrFun enk5 (m + 6)).trans ((pmU_n _ _ (by omega)).trans hR.2.2.2.2.2.2.1), (congrFun enk5 (m + 7)).trans ((pmU_n _ _ (by omega)).trans hR.2.2.2.2.2.2.2.1), (congrFun enk5 (m + 8)).trans ((pmU_n _ _ (by omega)).trans hR.2.2.2.2.2.2.2.2.1), (congrFun enk5 (m + 9)).trans ((pmU_n _ _ (by omega)).trans hR.2.2.2.2.2.2.2.2.2.1), (congrFun enk5 (m + 10)).trans ((pmU_n _ _ (by omega)).trans hR.2.2.2.2.2.2.2.2.2.2.1), (congrFun enk5 (m + 11)).trans ((pmU_n _ _ (by omega)).trans hR.2.2.2.2.2.2.2.2.2.2.2.1), (congrFun enk5 (m + 12)).trans ((pmU_n _ _ (by omega)).trans hR.2.2.2.2.2.2.2.2.2.2.2.2.1), (congrFun enk5 (m + 13)).trans ((pmU_n _ _ (by omega)).trans hR.2.2.2.2.2.2.2.2.2.2.2.2.2.1), (congrFun enk5 (m + 14)).trans ((pmU_n _ _ (by omega)).trans hR.2.2.2.2.2.2.2.2.2.2.2.2.2.2.1), (congrFun enk5 (m + 15)).trans ((pmU_n _ _ (by omega)).trans hR.2.2.2.2.2.2.2.2.2.2.2.2.2.2.2.1), (congrFun enk5 (m + 16)).trans ((pmU_n _ _ (by omega)).trans hR.2.2.2.2.2.2.2.2.2.2.2.2.2.2.2.2)⟩
        have sk5 := hs.trans gsk5
        refine go_iconst (v := 0) dRef_byteOf_65 (by decide) ?_
        refine go_iret dRef_byteOf_66 rfl rfl ?_ (Nat.le_of_ble_eq_true rfl) (Nat.le_of_ble_eq_true rfl)
        exact retR_no (by rw [boF, if_neg (fun q => q t1), if_pos (fun q => c3 q.2)]) hRk5 hr rfl sk5
  · refine go_iconst (v := 1) dRef_byteOf_8 (by decide) ?_
    refine go_goto (tgt := 55) dRef_byteOf_9 ?_
    refine go_putf dRef_byteOf_55 qf_Ref_59 pw_8_0 hR.1 rfl rfl ?_
    refine go_aload_n dRef_byteOf_58 rfl ?_
    refine go_getf dRef_byteOf_59 qf_Ref_59 (pmU_s _ _ _) rfl ?_
    refine go_if_le (tgt := 67) dRef_byteOf_62 (fun cc => absurd cc (by decide)) (fun _ => ?_)
    refine go_nm (fun hnk6 enk6 => ?_)
    have gsk6 : Sm h hnk6 m 17 := by rw [enk6]; exact (Sm.put' (Sm.refl _ _ _) _ (by omega) (by omega))
    have hRk6 : RfA hnk6 m (upd g 0 1) (A) := ⟨(congrFun enk6 m).trans (pmU_s _ _ _), (congrFun enk6 (m + 1)).trans ((pmU_n _ _ (by omega)).trans hR.2.1), (congrFun enk6 (m + 2)).trans ((pmU_n _ _ (by omega)).trans hR.2.2.1), (congrFun enk6 (m + 3)).trans ((pmU_n _ _ (by omega)).trans hR.2.2.2.1), (congrFun enk6 (m + 4)).trans ((pmU_n _ _ (by omega)).trans hR.2.2.2.2.1), (congrFun enk6 (m + 5)).trans ((pmU_n _ _ (by omega)).trans hR.2.2.2.2.2.1), (congrFun enk6 (m + 6)).trans ((pmU_n _ _ (by omega)).trans hR.2.2.2.2.2.2.1), (congrFun enk6 (m + 7)).trans ((pmU_n _ _ (by omega)).trans hR.2.2.2.2.2.2.2.1), (congrFun enk6 (m + 8)).trans ((pmU_n _ _ (by omega)).trans hR.2.2.2.2.2.2.2.2.1), (congrFun enk6 (m + 9)).trans ((pmU_n _ _ (by omega)).trans hR.2.2.2.2.2.2.2.2.2.1), (congrFun enk6 (m + 10)).trans ((pmU_n _ _ (by omega)).trans hR.2.2.2.2.2.2.2.2.2.2.1), (congrFun enk6 (m + 11)).trans ((pmU_n _ _ (by omega)).trans hR.2.2.2.2.2.2.2.2.2.2.2.1), (congrFun enk6 (m + 12)).trans ((pmU_n _ _ (by omega)).trans hR.2.2.2.2.2.2.2.2.2.2.2.2.1), (congrFun enk6 (m + 13)).trans ((pmU_n _ _ (by omega)).trans hR.2.2.2.2.2.2.2.2.2.2.2.2.2.1), (congrFun enk6 (m + 14)).trans ((pmU_n _ _ (by omega)).trans hR.2.2.2.2.2.2.2.2.2.2.2.2.2.2.1), (congrFun enk6 (m + 15)).trans ((pmU_n _ _ (by omega)).trans hR.2.2.2.2.2.2.2.2.2.2.2.2.2.2.2.1), (congrFun enk6 (m + 16)).trans ((pmU_n _ _ (by omega)).trans hR.2.2.2.2.2.2.2.2.2.2.2.2.2.2.2.2)⟩
    have sk6 := hs.trans gsk6
    refine go_iconst (v := 0) dRef_byteOf_65 (by decide) ?_
    refine go_iret dRef_byteOf_66 rfl rfl ?_ (Nat.le_of_ble_eq_true rfl) (Nat.le_of_ble_eq_true rfl)
    exact retR_no (by rw [boF, if_pos (ht.mp c1)]) hRk6 hr rfl sk6
set_option maxHeartbeats 4000000 in
theorem r_byteAt {E : pmEv} {h : pmH} {m : Nat} {g : Nat → Int32} {A : Nat → Nat → Int32} {α : aPF} {a1 : Int32} (hR : RfA h m g A) (hr : RR g A α) (hv : IvA α) : Call E mRef_byteAt [.ref m, .int a1] h none 0 0 (RetR m h [0, 0, 1] (some (.int 0)) (baF α a1)) := by
  have hs : Sm h h m 17 := Sm.refl _ _ _
  have ho := hr.1
  have ht : g 1 = 0 ↔ ¬ α.1.1 = true := by rw [ho.1]; exact bI_0
  have hw15 := hv.2.1.1
  have hf20 := hv.2.2.1.1
  have hw := hr.2.1
  have hf := hr.2.2.1
  refine call_of (L := [some (.ref m), some (.int a1)]) ok_mRef_byteAt (Nat.le_of_ble_eq_true rfl) ?_
  refine go_aload_n dRef_byteAt_0 rfl ?_
  refine go_iload_n dRef_byteAt_1 rfl ?_
  refine go_if_lt (tgt := 13) dRef_byteAt_2 (fun c1 => ?_) (fun c1 => ?_)
  · refine go_iconst (v := 1) dRef_byteAt_13 (by decide) ?_
    refine go_goto (tgt := 18) dRef_byteAt_14 ?_
    refine go_putf dRef_byteAt_18 qf_Ref_59 pw_8_0 hR.1 rfl rfl ?_
    refine go_aload_n dRef_byteAt_21 rfl ?_
    refine go_getf dRef_byteAt_22 qf_Ref_59 (pmU_s _ _ _) rfl ?_
    refine go_if_le (tgt := 32) dRef_byteAt_25 (fun cc => absurd cc (by decide)) (fun _ => ?_)
    refine go_nm (fun hnk1 enk1 => ?_)
    have gsk1 : Sm h hnk1 m 17 := by rw [enk1]; exact (Sm.put' (Sm.refl _ _ _) _ (by omega) (by omega))
    have hRk1 : RfA hnk1 m (upd g 0 1) (A) := ⟨(congrFun enk1 m).trans (pmU_s _ _ _), (congrFun enk1 (m + 1)).trans ((pmU_n _ _ (by omega)).trans hR.2.1), (congrFun enk1 (m + 2)).trans ((pmU_n _ _ (by omega)).trans hR.2.2.1), (congrFun enk1 (m + 3)).trans ((pmU_n _ _ (by omega)).trans hR.2.2.2.1), (congrFun enk1 (m + 4)).trans ((pmU_n _ _ (by omega)).trans hR.2.2.2.2.1), (congrFun enk1 (m + 5)).trans ((pmU_n _ _ (by omega)).trans hR.2.2.2.2.2.1), (congrFun enk1 (m + 6)).trans ((pmU_n _ _ (by omega)).trans hR.2.2.2.2.2.2.1), (congrFun enk1 (m + 7)).trans ((pmU_n _ _ (by omega)).trans hR.2.2.2.2.2.2.2.1), (congrFun enk1 (m + 8)).trans ((pmU_n _ _ (by omega)).trans hR.2.2.2.2.2.2.2.2.1), (congrFun enk1 (m + 9)).trans ((pmU_n _ _ (by omega)).trans hR.2.2.2.2.2.2.2.2.2.1), (congrFun enk1 (m + 10)).trans ((pmU_n _ _ (by omega)).trans hR.2.2.2.2.2.2.2.2.2.2.1), (congrFun enk1 (m + 11)).trans ((pmU_n _ _ (by omega)).trans hR.2.2.2.2.2.2.2.2.2.2.2.1), (congrFun enk1 (m + 12)).trans ((pmU_n _ _ (by omega)).trans hR.2.2.2.2.2.2.2.2.2.2.2.2.1), (congrFun enk1 (m + 13)).trans ((pmU_n _ _ (by omega)).trans hR.2.2.2.2.2.2.2.2.2.2.2.2.2.1), (congrFun enk1 (m + 14)).trans ((pmU_n _ _ (by omega)).trans hR.2.2.2.2.2.2.2.2.2.2.2.2.2.2.1), (congrFun enk1 (m + 15)).trans ((pmU_n _ _ (by omega)).trans hR.2.2.2.2.2.2.2.2.2.2.2.2.2.2.2.1), (congrFun enk1 (m + 16)).trans ((pmU_n _ _ (by omega)).trans hR.2.2.2.2.2.2.2.2.2.2.2.2.2.2.2.2)⟩
    have sk1 := hs.trans gsk1
    refine go_iconst (v := 0) dRef_byteAt_28 (by decide) ?_
    refine go_goto (tgt := 38) dRef_byteAt_29 ?_
    skip
    refine go_iret dRef_byteAt_38 rfl rfl ?_ (Nat.le_of_ble_eq_true rfl) (Nat.le_of_ble_eq_true rfl)
    exact retR_no (by rw [baF, if_pos (fun q => absurd q.1 (Int32.not_le.mpr c1))]) hRk1 hr rfl sk1
  · refine go_iload_n dRef_byteAt_5 rfl ?_
    refine go_aload_n dRef_byteAt_6 rfl ?_
    refine go_getf dRef_byteAt_7 qf_Ref_147 hR.1 rfl ?_
    refine go_top (y := nI α.2.1.2) (by exact hw.1) ?_
    refine go_icmp_lt (tgt := 17) dRef_byteAt_10 (fun c2 => ?_) (fun c2 => ?_)
    · refine go_iconst (v := 0) dRef_byteAt_17 (by decide) ?_
      refine go_putf dRef_byteAt_18 qf_Ref_59 pw_8_0 hR.1 rfl rfl ?_
      refine go_aload_n dRef_byteAt_21 rfl ?_
      refine go_getf dRef_byteAt_22 qf_Ref_59 (pmU_s _ _ _) rfl ?_
      refine go_if_le (tgt := 32) dRef_byteAt_25 (fun _ => ?_) (fun cc => absurd (by decide) cc)
      obtain ⟨j5, hj5, rfl⟩ := has_ex (by omega) ⟨Int32.not_lt.mp c1, c2⟩
      refine go_aload_n dRef_byteAt_32 rfl ?_
      refine go_getf dRef_byteAt_33 qf_Ref_46 (pmU_s _ _ _) rfl ?_
      refine go_iload_n dRef_byteAt_36 rfl ?_
      refine go_iald dRef_byteAt_37 ((pmU_n _ _ (by omega)).trans hR.2.2.2.2.2.2.2.2.2.2.2.2.2.1) (by exact vp_in_nI (by omega) (by omega)) (congrArg _ (nI_clamp (by omega))) ?_
      refine go_nm (fun hnk2 enk2 => ?_)
      have gsk2 : Sm h hnk2 m 17 := by rw [enk2]; exact (Sm.put' (Sm.refl _ _ _) _ (by omega) (by omega))
      have hRk2 : RfA hnk2 m (upd g 0 0) (A) := ⟨(congrFun enk2 m).trans (pmU_s _ _ _), (congrFun enk2 (m + 1)).trans ((pmU_n _ _ (by omega)).trans hR.2.1), (congrFun enk2 (m + 2)).trans ((pmU_n _ _ (by omega)).trans hR.2.2.1), (congrFun enk2 (m + 3)).trans ((pmU_n _ _ (by omega)).trans hR.2.2.2.1), (congrFun enk2 (m + 4)).trans ((pmU_n _ _ (by omega)).trans hR.2.2.2.2.1), (congrFun enk2 (m + 5)).trans ((pmU_n _ _ (by omega)).trans hR.2.2.2.2.2.1), (congrFun enk2 (m + 6)).trans ((pmU_n _ _ (by omega)).trans hR.2.2.2.2.2.2.1), (congrFun enk2 (m + 7)).trans ((pmU_n _ _ (by omega)).trans hR.2.2.2.2.2.2.2.1), (congrFun enk2 (m + 8)).trans ((pmU_n _ _ (by omega)).trans hR.2.2.2.2.2.2.2.2.1), (congrFun enk2 (m + 9)).trans ((pmU_n _ _ (by omega)).trans hR.2.2.2.2.2.2.2.2.2.1), (congrFun enk2 (m + 10)).trans ((pmU_n _ _ (by omega)).trans hR.2.2.2.2.2.2.2.2.2.2.1), (congrFun enk2 (m + 11)).trans ((pmU_n _ _ (by omega)).trans hR.2.2.2.2.2.2.2.2.2.2.2.1), (congrFun enk2 (m + 12)).trans ((pmU_n _ _ (by omega)).trans hR.2.2.2.2.2.2.2.2.2.2.2.2.1), (congrFun enk2 (m + 13)).trans ((pmU_n _ _ (by omega)).trans hR.2.2.2.2.2.2.2.2.2.2.2.2.2.1), (congrFun enk2 (m + 14)).trans ((pmU_n _ _ (by omega)).trans hR.2.2.2.2.2.2.2.2.2.2.2.2.2.2.1), (congrFun enk2 (m + 15)).trans ((pmU_n _ _ (by omega)).trans hR.2.2.2.2.2.2.2.2.2.2.2.2.2.2.2.1), (congrFun enk2 (m + 16)).trans ((pmU_n _ _ (by omega)).trans hR.2.2.2.2.2.2.2.2.2.2.2.2.2.2.2.2)⟩
      have sk2 := hs.trans gsk2
      refine go_iret dRef_byteAt_38 rfl rfl ?_ (Nat.le_of_ble_eq_true rfl) (Nat.le_of_ble_eq_true rfl)
      exact retR_ok (by rw [baF, if_neg (fun q => q ⟨Int32.not_lt.mp c1, c2⟩), nI_clamp (n := j5) (by omega), hw.2 j5 hj5]) hRk2 hr rfl sk2
    · refine go_iconst (v := 1) dRef_byteAt_13 (by decide) ?_
      refine go_goto (tgt := 18) dRef_byteAt_14 ?_
      refine go_putf dRef_byteAt_18 qf_Ref_59 pw_8_0 hR.1 rfl rfl ?_
      refine go_aload_n dRef_byteAt_21 rfl ?_
      refine go_getf dRef_byteAt_22 qf_Ref_59 (pmU_s _ _ _) rfl ?_
      refine go_if_le (tgt := 32) dRef_byteAt_25 (fun cc => absurd cc (by decide)) (fun _ => ?_)
      refine go_nm (fun hnk3 enk3 => ?_)
      have gsk3 : Sm h hnk3 m 17 := by rw [enk3]; exact (Sm.put' (Sm.refl _ _ _) _ (by omega) (by omega))
      have hRk3 : RfA hnk3 m (upd g 0 1) (A) := ⟨(congrFun enk3 m).trans (pmU_s _ _ _), (congrFun enk3 (m + 1)).trans ((pmU_n _ _ (by omega)).trans hR.2.1), (congrFun enk3 (m + 2)).trans ((pmU_n _ _ (by omega)).trans hR.2.2.1), (congrFun enk3 (m + 3)).trans ((pmU_n _ _ (by omega)).trans hR.2.2.2.1), (congrFun enk3 (m + 4)).trans ((pmU_n _ _ (by omega)).trans hR.2.2.2.2.1), (congrFun enk3 (m + 5)).trans ((pmU_n _ _ (by omega)).trans hR.2.2.2.2.2.1), (congrFun enk3 (m + 6)).trans ((pmU_n _ _ (by omega)).trans hR.2.2.2.2.2.2.1), (congrFun enk3 (m + 7)).trans ((pmU_n _ _ (by omega)).trans hR.2.2.2.2.2.2.2.1), (congrFun enk3 (m + 8)).trans ((pmU_n _ _ (by omega)).trans hR.2.2.2.2.2.2.2.2.1), (congrFun enk3 (m + 9)).trans ((pmU_n _ _ (by omega)).trans hR.2.2.2.2.2.2.2.2.2.1), (congrFun enk3 (m + 10)).trans ((pmU_n _ _ (by omega)).trans hR.2.2.2.2.2.2.2.2.2.2.1), (congrFun enk3 (m + 11)).trans ((pmU_n _ _ (by omega)).trans hR.2.2.2.2.2.2.2.2.2.2.2.1), (congrFun enk3 (m + 12)).trans ((pmU_n _ _ (by omega)).trans hR.2.2.2.2.2.2.2.2.2.2.2.2.1), (congrFun enk3 (m + 13)).trans ((pmU_n _ _ (by omega)).trans hR.2.2.2.2.2.2.2.2.2.2.2.2.2.1), (congrFun enk3 (m + 14)).trans ((pmU_n _ _ (by omega)).trans hR.2.2.2.2.2.2.2.2.2.2.2.2.2.2.1), (congrFun enk3 (m + 15)).trans ((pmU_n _ _ (by omega)).trans hR.2.2.2.2.2.2.2.2.2.2.2.2.2.2.2.1), (congrFun enk3 (m + 16)).trans ((pmU_n _ _ (by omega)).trans hR.2.2.2.2.2.2.2.2.2.2.2.2.2.2.2.2)⟩
      have sk3 := hs.trans gsk3
      refine go_iconst (v := 0) dRef_byteAt_28 (by decide) ?_
      refine go_goto (tgt := 38) dRef_byteAt_29 ?_
      skip
      refine go_iret dRef_byteAt_38 rfl rfl ?_ (Nat.le_of_ble_eq_true rfl) (Nat.le_of_ble_eq_true rfl)
      exact retR_no (by rw [baF, if_pos (fun q => c2 q.2)]) hRk3 hr rfl sk3
set_option maxHeartbeats 4000000 in
theorem r_feed {E : pmEv} {h : pmH} {m : Nat} {g : Nat → Int32} {A : Nat → Nat → Int32} {α : aPF} {a1 : Int32} (hR : RfA h m g A) (hr : RR g A α) (hv : IvA α) : Call E mRef_feed [.ref m, .int a1] h none 0 0 (RetR m h [0, 1, 0, 2] (some (.int 0)) (feF α a1)) := by
  have hs : Sm h h m 17 := Sm.refl _ _ _
  have ho := hr.1
  have ht : g 1 = 0 ↔ ¬ α.1.1 = true := by rw [ho.1]; exact bI_0
  have hw15 := hv.2.1.1
  have hf20 := hv.2.2.1.1
  have hw := hr.2.1
  have hf := hr.2.2.1
  refine call_of (L := [some (.ref m), some (.int a1)]) ok_mRef_feed (Nat.le_of_ble_eq_true rfl) ?_
  refine go_aload_n dRef_feed_0 rfl ?_
  refine go_iload_n dRef_feed_1 rfl ?_
  refine go_statP dRef_feed_2 ok_mRef_isByte st_mRef_isByte qm_Ref_89 r_isByte ?_ (hnp := np_mRef_isByte)
  refine go_ifne_b (tgt := 12) dRef_feed_5 (fun c1 => ?_) (fun c1 => ?_)
  · refine go_aload_n dRef_feed_12 rfl ?_
    refine go_getf dRef_feed_13 qf_Ref_196 hR.1 rfl ?_
    refine go_sipush (v := 2000) dRef_feed_16 (by decide) ?_
    refine go_icmp_ne (tgt := 26) dRef_feed_19 (fun c2 => ?_) (fun c2 => ?_)
    · refine go_iconst (v := 0) dRef_feed_26 (by decide) ?_
      refine go_putf dRef_feed_27 qf_Ref_59 pw_8_0 hR.1 rfl rfl ?_
      refine go_aload_n dRef_feed_30 rfl ?_
      refine go_getf dRef_feed_31 qf_Ref_59 (pmU_s _ _ _) rfl ?_
      refine go_if_le (tgt := 39) dRef_feed_34 (fun _ => ?_) (fun cc => absurd (by decide) cc)
      have hlt : α.2.2.1.2 < 2000 := Nat.lt_of_le_of_ne hf20 fun q => c2 (by rw [hf.1, q]; rfl)
      refine go_aload_n dRef_feed_39 rfl ?_
      refine go_getf dRef_feed_40 qf_Ref_49 (pmU_s _ _ _) rfl ?_
      refine go_aload_n dRef_feed_43 rfl ?_
      refine go_getf dRef_feed_44 qf_Ref_196 (pmU_s _ _ _) rfl ?_
      refine go_top (y := nI α.2.2.1.2) (by exact hf.1) ?_
      refine go_iload_n dRef_feed_47 rfl ?_
      refine go_iast dRef_feed_48 ((pmU_n _ _ (by omega)).trans hR.2.2.2.2.2.2.2.2.2.2.2.2.2.2.1) (by exact vp_in_nI (by omega) (by omega)) (nI_clamp (by omega)) ?_
      refine go_aload_n dRef_feed_49 rfl ?_
      refine go_dup dRef_feed_50 rfl ?_
      refine go_getf dRef_feed_51 qf_Ref_196 ((pmU_n _ _ (by omega)).trans (pmU_s _ _ _)) rfl ?_
      refine go_iconst (v := 1) dRef_feed_54 (by decide) ?_
      refine go_iadd dRef_feed_55 ?_
      refine go_putf dRef_feed_56 qf_Ref_196 pw_8_32 ((pmU_n _ _ (by omega)).trans (pmU_s _ _ _)) rfl rfl ?_
      refine go_nm (fun hnk1 enk1 => ?_)
      have gsk1 : Sm h hnk1 m 17 := by rw [enk1]; exact (Sm.put' (Sm.put' (Sm.put' (Sm.refl _ _ _) _ (by omega) (by omega)) _ (by omega) (by omega)) _ (by omega) (by omega))
      have hRk1 : RfA hnk1 m (upd (upd g 0 0) 32 (g 32 + 1)) (uA A 13 (upd (A 13) α.2.2.1.2 a1)) := ⟨(congrFun enk1 m).trans (pmU_s _ _ _), (congrFun enk1 (m + 1)).trans ((pmU_n _ _ (by omega)).trans ((pmU_n _ _ (by omega)).trans ((pmU_n _ _ (by omega)).trans hR.2.1))), (congrFun enk1 (m + 2)).trans ((pmU_n _ _ (by omega)).trans ((pmU_n _ _ (by omega)).trans ((pmU_n _ _ (by omega)).trans hR.2.2.1))), (congrFun enk1 (m + 3)).trans ((pmU_n _ _ (by omega)).trans ((pmU_n _ _ (by omega)).trans ((pmU_n _ _ (by omega)).trans hR.2.2.2.1))), (congrFun enk1 (m + 4)).trans ((pmU_n _ _ (by omega)).trans ((pmU_n _ _ (by omega)).trans ((pmU_n _ _ (by omega)).trans hR.2.2.2.2.1))), (congrFun enk1 (m + 5)).trans ((pmU_n _ _ (by omega)).trans ((pmU_n _ _ (by omega)).trans ((pmU_n _ _ (by omega)).trans hR.2.2.2.2.2.1))), (congrFun enk1 (m + 6)).trans ((pmU_n _ _ (by omega)).trans ((pmU_n _ _ (by omega)).trans ((pmU_n _ _ (by omega)).trans hR.2.2.2.2.2.2.1))), (congrFun enk1 (m + 7)).trans ((pmU_n _ _ (by omega)).trans ((pmU_n _ _ (by omega)).trans ((pmU_n _ _ (by omega)).trans hR.2.2.2.2.2.2.2.1))), (congrFun enk1 (m + 8)).trans ((pmU_n _ _ (by omega)).trans ((pmU_n _ _ (by omega)).trans ((pmU_n _ _ (by omega)).trans hR.2.2.2.2.2.2.2.2.1))), (congrFun enk1 (m + 9)).trans ((pmU_n _ _ (by omega)).trans ((pmU_n _ _ (by omega)).trans ((pmU_n _ _ (by omega)).trans hR.2.2.2.2.2.2.2.2.2.1))), (congrFun enk1 (m + 10)).trans ((pmU_n _ _ (by omega)).trans ((pmU_n _ _ (by omega)).trans ((pmU_n _ _ (by omega)).trans hR.2.2.2.2.2.2.2.2.2.2.1))), (congrFun enk1 (m + 11)).trans ((pmU_n _ _ (by omega)).trans ((pmU_n _ _ (by omega)).trans ((pmU_n _ _ (by omega)).trans hR.2.2.2.2.2.2.2.2.2.2.2.1))), (congrFun enk1 (m + 12)).trans ((pmU_n _ _ (by omega)).trans ((pmU_n _ _ (by omega)).trans ((pmU_n _ _ (by omega)).trans hR.2.2.2.2.2.2.2.2.2.2.2.2.1))), (congrFun enk1 (m + 13)).trans ((pmU_n _ _ (by omega)).trans ((pmU_n _ _ (by omega)).trans ((pmU_n _ _ (by omega)).trans hR.2.2.2.2.2.2.2.2.2.2.2.2.2.1))), (congrFun enk1 (m + 14)).trans ((pmU_n _ _ (by omega)).trans (pmU_s _ _ _)), (congrFun enk1 (m + 15)).trans ((pmU_n _ _ (by omega)).trans ((pmU_n _ _ (by omega)).trans ((pmU_n _ _ (by omega)).trans hR.2.2.2.2.2.2.2.2.2.2.2.2.2.2.2.1))), (congrFun enk1 (m + 16)).trans ((pmU_n _ _ (by omega)).trans ((pmU_n _ _ (by omega)).trans ((pmU_n _ _ (by omega)).trans hR.2.2.2.2.2.2.2.2.2.2.2.2.2.2.2.2)))⟩
      have sk1 := hs.trans gsk1
      refine go_aload_n dRef_feed_59 rfl ?_
      refine go_getf dRef_feed_60 qf_Ref_196 hRk1.1 rfl ?_
      refine go_top (y := nI (α.2.2.1.2 + 1)) (by show g 32 + 1 = _; rw [hf.1]; exact nI_a1 _) ?_
      refine go_iret dRef_feed_63 rfl rfl ?_ (Nat.le_of_ble_eq_true rfl) (Nat.le_of_ble_eq_true rfl)
      exact retR_ok (β := (α.1, α.2.1, wA α.2.2.1 a1, α.2.2.2)) (by rw [feF, if_neg (fun q => q c1), if_neg (fun q => q (room_y (m := 1) (by omega) hf20 (by omega)))]) hRk1 ⟨hr.1, hr.2.1, ⟨by show g 32 + 1 = _; rw [hf.1]; exact nI_a1 _, hf.2.push a1⟩, hr.2.2.2⟩ rfl sk1
    · refine go_iconst (v := 2) dRef_feed_22 (by decide) ?_
      refine go_goto (tgt := 27) dRef_feed_23 ?_
      refine go_putf dRef_feed_27 qf_Ref_59 pw_8_0 hR.1 rfl rfl ?_
      refine go_aload_n dRef_feed_30 rfl ?_
      refine go_getf dRef_feed_31 qf_Ref_59 (pmU_s _ _ _) rfl ?_
      refine go_if_le (tgt := 39) dRef_feed_34 (fun cc => absurd cc (by decide)) (fun _ => ?_)
      refine go_nm (fun hnk2 enk2 => ?_)
      have gsk2 : Sm h hnk2 m 17 := by rw [enk2]; exact (Sm.put' (Sm.refl _ _ _) _ (by omega) (by omega))
      have hRk2 : RfA hnk2 m (upd g 0 2) (A) := ⟨(congrFun enk2 m).trans (pmU_s _ _ _), (congrFun enk2 (m + 1)).trans ((pmU_n _ _ (by omega)).trans hR.2.1), (congrFun enk2 (m + 2)).trans ((pmU_n _ _ (by omega)).trans hR.2.2.1), (congrFun enk2 (m + 3)).trans ((pmU_n _ _ (by omega)).trans hR.2.2.2.1), (congrFun enk2 (m + 4)).trans ((pmU_n _ _ (by omega)).trans hR.2.2.2.2.1), (congrFun enk2 (m + 5)).trans ((pmU_n _ _ (by omega)).trans hR.2.2.2.2.2.1), (congrFun enk2 (m + 6)).trans ((pmU_n _ _ (by omega)).trans hR.2.2.2.2.2.2.1), (congrFun enk2 (m + 7)).trans ((pmU_n _ _ (by omega)).trans hR.2.2.2.2.2.2.2.1), (congrFun enk2 (m + 8)).trans ((pmU_n _ _ (by omega)).trans hR.2.2.2.2.2.2.2.2.1), (congrFun enk2 (m + 9)).trans ((pmU_n _ _ (by omega)).trans hR.2.2.2.2.2.2.2.2.2.1), (congrFun enk2 (m + 10)).trans ((pmU_n _ _ (by omega)).trans hR.2.2.2.2.2.2.2.2.2.2.1), (congrFun enk2 (m + 11)).trans ((pmU_n _ _ (by omega)).trans hR.2.2.2.2.2.2.2.2.2.2.2.1), (congrFun enk2 (m + 12)).trans ((pmU_n _ _ (by omega)).trans hR.2.2.2.2.2.2.2.2.2.2.2.2.1), (congrFun enk2 (m + 13)).trans ((pmU_n _ _ (by omega)).trans hR.2.2.2.2.2.2.2.2.2.2.2.2.2.1), (congrFun enk2 (m + 14)).trans ((pmU_n _ _ (by omega)).trans hR.2.2.2.2.2.2.2.2.2.2.2.2.2.2.1), (congrFun enk2 (m + 15)).trans ((pmU_n _ _ (by omega)).trans hR.2.2.2.2.2.2.2.2.2.2.2.2.2.2.2.1), (congrFun enk2 (m + 16)).trans ((pmU_n _ _ (by omega)).trans hR.2.2.2.2.2.2.2.2.2.2.2.2.2.2.2.2)⟩
      have sk2 := hs.trans gsk2
      refine go_iconst (v := 0) dRef_feed_37 (by decide) ?_
      refine go_iret dRef_feed_38 rfl rfl ?_ (Nat.le_of_ble_eq_true rfl) (Nat.le_of_ble_eq_true rfl)
      exact retR_no (by rw [feF, if_neg (fun q => q c1), if_pos (show ¬ (1 : Int32) ≤ 2000 - nI α.2.2.1.2 from fun q => absurd (room_n (m := 1) (by omega) hf20 q) (by rw [(nI_inj (b := 2000) (by omega) (by omega)).mp (hf.1.symm.trans c2)]; omega))]) hRk2 hr rfl sk2
  · refine go_iconst (v := 1) dRef_feed_8 (by decide) ?_
    refine go_goto (tgt := 27) dRef_feed_9 ?_
    refine go_putf dRef_feed_27 qf_Ref_59 pw_8_0 hR.1 rfl rfl ?_
    refine go_aload_n dRef_feed_30 rfl ?_
    refine go_getf dRef_feed_31 qf_Ref_59 (pmU_s _ _ _) rfl ?_
    refine go_if_le (tgt := 39) dRef_feed_34 (fun cc => absurd cc (by decide)) (fun _ => ?_)
    refine go_nm (fun hnk3 enk3 => ?_)
    have gsk3 : Sm h hnk3 m 17 := by rw [enk3]; exact (Sm.put' (Sm.refl _ _ _) _ (by omega) (by omega))
    have hRk3 : RfA hnk3 m (upd g 0 1) (A) := ⟨(congrFun enk3 m).trans (pmU_s _ _ _), (congrFun enk3 (m + 1)).trans ((pmU_n _ _ (by omega)).trans hR.2.1), (congrFun enk3 (m + 2)).trans ((pmU_n _ _ (by omega)).trans hR.2.2.1), (congrFun enk3 (m + 3)).trans ((pmU_n _ _ (by omega)).trans hR.2.2.2.1), (congrFun enk3 (m + 4)).trans ((pmU_n _ _ (by omega)).trans hR.2.2.2.2.1), (congrFun enk3 (m + 5)).trans ((pmU_n _ _ (by omega)).trans hR.2.2.2.2.2.1), (congrFun enk3 (m + 6)).trans ((pmU_n _ _ (by omega)).trans hR.2.2.2.2.2.2.1), (congrFun enk3 (m + 7)).trans ((pmU_n _ _ (by omega)).trans hR.2.2.2.2.2.2.2.1), (congrFun enk3 (m + 8)).trans ((pmU_n _ _ (by omega)).trans hR.2.2.2.2.2.2.2.2.1), (congrFun enk3 (m + 9)).trans ((pmU_n _ _ (by omega)).trans hR.2.2.2.2.2.2.2.2.2.1), (congrFun enk3 (m + 10)).trans ((pmU_n _ _ (by omega)).trans hR.2.2.2.2.2.2.2.2.2.2.1), (congrFun enk3 (m + 11)).trans ((pmU_n _ _ (by omega)).trans hR.2.2.2.2.2.2.2.2.2.2.2.1), (congrFun enk3 (m + 12)).trans ((pmU_n _ _ (by omega)).trans hR.2.2.2.2.2.2.2.2.2.2.2.2.1), (congrFun enk3 (m + 13)).trans ((pmU_n _ _ (by omega)).trans hR.2.2.2.2.2.2.2.2.2.2.2.2.2.1), (congrFun enk3 (m + 14)).trans ((pmU_n _ _ (by omega)).trans hR.2.2.2.2.2.2.2.2.2.2.2.2.2.2.1), (congrFun enk3 (m + 15)).trans ((pmU_n _ _ (by omega)).trans hR.2.2.2.2.2.2.2.2.2.2.2.2.2.2.2.1), (congrFun enk3 (m + 16)).trans ((pmU_n _ _ (by omega)).trans hR.2.2.2.2.2.2.2.2.2.2.2.2.2.2.2.2)⟩
    have sk3 := hs.trans gsk3
    refine go_iconst (v := 0) dRef_feed_37 (by decide) ?_
    refine go_iret dRef_feed_38 rfl rfl ?_ (Nat.le_of_ble_eq_true rfl) (Nat.le_of_ble_eq_true rfl)
    exact retR_no (by rw [feF, if_pos c1]) hRk3 hr rfl sk3
set_option maxHeartbeats 4000000 in
theorem r_told {E : pmEv} {h : pmH} {m : Nat} {g : Nat → Int32} {A : Nat → Nat → Int32} {α : aPF} {a1 : Int32} (hR : RfA h m g A) (hr : RR g A α) (hv : IvA α) : Call E mRef_told [.ref m, .int a1] h none 0 0 (RetR m h [] (some (.int 0)) (toF α a1)) := by
  have hs : Sm h h m 17 := Sm.refl _ _ _
  have ho := hr.1
  have ht : g 1 = 0 ↔ ¬ α.1.1 = true := by rw [ho.1]; exact bI_0
  have hw15 := hv.2.1.1
  have hf20 := hv.2.2.1.1
  have hw := hr.2.1
  have hf := hr.2.2.1
  refine call_of (L := [some (.ref m), some (.int a1)]) ok_mRef_told (Nat.le_of_ble_eq_true rfl) ?_
  refine go_aload_n dRef_told_0 rfl ?_
  refine go_iconst (v := 0) dRef_told_1 (by decide) ?_
  refine go_putf dRef_told_2 qf_Ref_59 pw_8_0 hR.1 rfl rfl ?_
  refine go_nm (fun hnk1 enk1 => ?_)
  have gsk1 : Sm h hnk1 m 17 := by rw [enk1]; exact (Sm.put' (Sm.refl _ _ _) _ (by omega) (by omega))
  have hRk1 : RfA hnk1 m (upd g 0 0) (A) := ⟨(congrFun enk1 m).trans (pmU_s _ _ _), (congrFun enk1 (m + 1)).trans ((pmU_n _ _ (by omega)).trans hR.2.1), (congrFun enk1 (m + 2)).trans ((pmU_n _ _ (by omega)).trans hR.2.2.1), (congrFun enk1 (m + 3)).trans ((pmU_n _ _ (by omega)).trans hR.2.2.2.1), (congrFun enk1 (m + 4)).trans ((pmU_n _ _ (by omega)).trans hR.2.2.2.2.1), (congrFun enk1 (m + 5)).trans ((pmU_n _ _ (by omega)).trans hR.2.2.2.2.2.1), (congrFun enk1 (m + 6)).trans ((pmU_n _ _ (by omega)).trans hR.2.2.2.2.2.2.1), (congrFun enk1 (m + 7)).trans ((pmU_n _ _ (by omega)).trans hR.2.2.2.2.2.2.2.1), (congrFun enk1 (m + 8)).trans ((pmU_n _ _ (by omega)).trans hR.2.2.2.2.2.2.2.2.1), (congrFun enk1 (m + 9)).trans ((pmU_n _ _ (by omega)).trans hR.2.2.2.2.2.2.2.2.2.1), (congrFun enk1 (m + 10)).trans ((pmU_n _ _ (by omega)).trans hR.2.2.2.2.2.2.2.2.2.2.1), (congrFun enk1 (m + 11)).trans ((pmU_n _ _ (by omega)).trans hR.2.2.2.2.2.2.2.2.2.2.2.1), (congrFun enk1 (m + 12)).trans ((pmU_n _ _ (by omega)).trans hR.2.2.2.2.2.2.2.2.2.2.2.2.1), (congrFun enk1 (m + 13)).trans ((pmU_n _ _ (by omega)).trans hR.2.2.2.2.2.2.2.2.2.2.2.2.2.1), (congrFun enk1 (m + 14)).trans ((pmU_n _ _ (by omega)).trans hR.2.2.2.2.2.2.2.2.2.2.2.2.2.2.1), (congrFun enk1 (m + 15)).trans ((pmU_n _ _ (by omega)).trans hR.2.2.2.2.2.2.2.2.2.2.2.2.2.2.2.1), (congrFun enk1 (m + 16)).trans ((pmU_n _ _ (by omega)).trans hR.2.2.2.2.2.2.2.2.2.2.2.2.2.2.2.2)⟩
  have sk1 := hs.trans gsk1
  refine go_iload_n dRef_told_5 rfl ?_
  refine go_by (0) (fun s1 => ?_) (fun s1 => ?_)
  · refine go_tableIn (tgt := 48) (off := 42) dRef_told_6 (by decide) (by decide) (by decide) ?_
    refine go_aload_n dRef_told_48 rfl ?_
    refine go_getf dRef_told_49 qf_Ref_206 hRk1.1 rfl ?_
    refine go_iret dRef_told_52 rfl rfl ?_ (Nat.le_of_ble_eq_true rfl) (Nat.le_of_ble_eq_true rfl)
    exact retR_ok (by rw [toF, toV, if_pos s1, ← hr.2.2.2.1]; rfl) hRk1 hr rfl sk1
  refine go_by (1) (fun s2 => ?_) (fun s2 => ?_)
  · refine go_tableIn (tgt := 53) (off := 47) dRef_told_6 (by decide) (by decide) (by decide) ?_
    refine go_aload_n dRef_told_53 rfl ?_
    refine go_getf dRef_told_54 qf_Ref_67 hRk1.1 rfl ?_
    refine go_if_eq (tgt := 67) dRef_told_57 (fun c3 => ?_) (fun c3 => ?_)
    · refine go_iconst (v := -1) dRef_told_67 (by decide) ?_
      refine go_iret dRef_told_68 rfl rfl ?_ (Nat.le_of_ble_eq_true rfl) (Nat.le_of_ble_eq_true rfl)
      exact retR_ok (by rw [toF, toV, if_neg s1, if_pos s2, if_neg (ht.mp c3)]) hRk1 hr rfl sk1
    · refine go_aload_n dRef_told_60 rfl ?_
      refine go_getf dRef_told_61 qf_Ref_80 hRk1.1 rfl ?_
      refine go_goto (tgt := 68) dRef_told_64 ?_
      refine go_iret dRef_told_68 rfl rfl ?_ (Nat.le_of_ble_eq_true rfl) (Nat.le_of_ble_eq_true rfl)
      have t1 : α.1.1 = true := Decidable.not_not.mp fun q => c3 (ht.mpr q)
      have hd := (ho.2.1 t1).1
      exact retR_ok (by rw [toF, toV, if_neg s1, if_pos s2, if_pos t1, ← hd.2.2.2]; rfl) hRk1 hr rfl sk1
  refine go_by (2) (fun s3 => ?_) (fun s3 => ?_)
  · refine go_tableIn (tgt := 69) (off := 63) dRef_told_6 (by decide) (by decide) (by decide) ?_
    refine go_aload_n dRef_told_69 rfl ?_
    refine go_getf dRef_told_70 qf_Ref_67 hRk1.1 rfl ?_
    refine go_if_eq (tgt := 83) dRef_told_73 (fun c4 => ?_) (fun c4 => ?_)
    · refine go_iconst (v := -1) dRef_told_83 (by decide) ?_
      refine go_iret dRef_told_84 rfl rfl ?_ (Nat.le_of_ble_eq_true rfl) (Nat.le_of_ble_eq_true rfl)
      exact retR_ok (by rw [toF, toV, if_neg s1, if_neg s2, if_pos s3, if_neg (ht.mp c4)]) hRk1 hr rfl sk1
    · refine go_aload_n dRef_told_76 rfl ?_
      refine go_getf dRef_told_77 qf_Ref_77 hRk1.1 rfl ?_
      refine go_goto (tgt := 84) dRef_told_80 ?_
      refine go_iret dRef_told_84 rfl rfl ?_ (Nat.le_of_ble_eq_true rfl) (Nat.le_of_ble_eq_true rfl)
      have t1 : α.1.1 = true := Decidable.not_not.mp fun q => c4 (ht.mpr q)
      have hd := (ho.2.1 t1).1
      exact retR_ok (by rw [toF, toV, if_neg s1, if_neg s2, if_pos s3, if_pos t1, ← hd.2.2.1]; rfl) hRk1 hr rfl sk1
  refine go_by (3) (fun s4 => ?_) (fun s4 => ?_)
  · refine go_tableIn (tgt := 85) (off := 79) dRef_told_6 (by decide) (by decide) (by decide) ?_
    refine go_aload_n dRef_told_85 rfl ?_
    refine go_getf dRef_told_86 qf_Ref_86 hRk1.1 rfl ?_
    refine go_iret dRef_told_89 rfl rfl ?_ (Nat.le_of_ble_eq_true rfl) (Nat.le_of_ble_eq_true rfl)
    exact retR_ok (by rw [toF, toV, if_neg s1, if_neg s2, if_neg s3, if_pos s4, ← ho.2.2.2.1]; rfl) hRk1 hr rfl sk1
  refine go_by (4) (fun s5 => ?_) (fun s5 => ?_)
  · refine go_tableIn (tgt := 90) (off := 84) dRef_told_6 (by decide) (by decide) (by decide) ?_
    refine go_aload_n dRef_told_90 rfl ?_
    refine go_getf dRef_told_91 qf_Ref_147 hRk1.1 rfl ?_
    refine go_iret dRef_told_94 rfl rfl ?_ (Nat.le_of_ble_eq_true rfl) (Nat.le_of_ble_eq_true rfl)
    exact retR_ok (by rw [toF, toV, if_neg s1, if_neg s2, if_neg s3, if_neg s4, if_pos s5, ← hw.1]; rfl) hRk1 hr rfl sk1
  refine go_by (5) (fun s6 => ?_) (fun s6 => ?_)
  · refine go_tableIn (tgt := 95) (off := 89) dRef_told_6 (by decide) (by decide) (by decide) ?_
    refine go_aload_n dRef_told_95 rfl ?_
    refine go_getf dRef_told_96 qf_Ref_196 hRk1.1 rfl ?_
    refine go_iret dRef_told_99 rfl rfl ?_ (Nat.le_of_ble_eq_true rfl) (Nat.le_of_ble_eq_true rfl)
    exact retR_ok (by rw [toF, toV, if_neg s1, if_neg s2, if_neg s3, if_neg s4, if_neg s5, if_pos s6, ← hf.1]; rfl) hRk1 hr rfl sk1
  refine go_by (6) (fun s7 => ?_) (fun s7 => ?_)
  · refine go_tableIn (tgt := 100) (off := 94) dRef_told_6 (by decide) (by decide) (by decide) ?_
    refine go_aload_n dRef_told_100 rfl ?_
    refine go_getf dRef_told_101 qf_Ref_83 hRk1.1 rfl ?_
    refine go_iret dRef_told_104 rfl rfl ?_ (Nat.le_of_ble_eq_true rfl) (Nat.le_of_ble_eq_true rfl)
    exact retR_ok (by rw [toF, toV, if_neg s1, if_neg s2, if_neg s3, if_neg s4, if_neg s5, if_neg s6, if_pos s7, ← ho.2.2.1.1]; rfl) hRk1 hr rfl sk1
  refine go_tableOut (tgt := 105) dRef_told_6 (by have a0 := lv_neT s1 (a := 0) (by decide); have a1 := lv_neT s2 (a := 1) (by decide); have a2 := lv_neT s3 (a := 2) (by decide); have a3 := lv_neT s4 (a := 3) (by decide); have a4 := lv_neT s5 (a := 4) (by decide); have a5 := lv_neT s6 (a := 5) (by decide); have a6 := lv_neT s7 (a := 6) (by decide); omega) ?_
  refine go_iconst (v := -1) dRef_told_105 (by decide) ?_
  refine go_iret dRef_told_106 rfl rfl ?_ (Nat.le_of_ble_eq_true rfl) (Nat.le_of_ble_eq_true rfl)
  exact retR_ok (by rw [toF, toV, if_neg s1, if_neg s2, if_neg s3, if_neg s4, if_neg s5, if_neg s6, if_neg s7]) hRk1 hr rfl sk1
set_option maxHeartbeats 4000000 in
theorem r_drop {E : pmEv} {h : pmH} {m : Nat} {g : Nat → Int32} {A : Nat → Nat → Int32} {α : aPF} (hR : RfA h m g A) (hr : RR g A α) (hv : IvA α) : Call E mRef_drop [.ref m] h none 0 0 (RetR m h [] none (drF α)) := by
  have hs : Sm h h m 17 := Sm.refl _ _ _
  have ho := hr.1
  have ht : g 1 = 0 ↔ ¬ α.1.1 = true := by rw [ho.1]; exact bI_0
  refine call_of (L := [some (.ref m)]) ok_mRef_drop (Nat.le_of_ble_eq_true rfl) ?_
  refine go_aload_n dRef_drop_0 rfl ?_
  refine go_iconst (v := 0) dRef_drop_1 (by decide) ?_
  refine go_putf dRef_drop_2 qf_Ref_59 pw_8_0 hR.1 rfl rfl ?_
  refine go_aload_n dRef_drop_5 rfl ?_
  refine go_iconst (v := 0) dRef_drop_6 (by decide) ?_
  refine go_putf dRef_drop_7 qf_Ref_196 pw_8_32 (pmU_s _ _ _) rfl rfl ?_
  refine go_nm (fun hnk1 enk1 => ?_)
  have gsk1 : Sm h hnk1 m 17 := by rw [enk1]; exact (Sm.put' (Sm.put' (Sm.refl _ _ _) _ (by omega) (by omega)) _ (by omega) (by omega))
  have hRk1 : RfA hnk1 m (upd (upd g 0 0) 32 0) (A) := ⟨(congrFun enk1 m).trans (pmU_s _ _ _), (congrFun enk1 (m + 1)).trans ((pmU_n _ _ (by omega)).trans ((pmU_n _ _ (by omega)).trans hR.2.1)), (congrFun enk1 (m + 2)).trans ((pmU_n _ _ (by omega)).trans ((pmU_n _ _ (by omega)).trans hR.2.2.1)), (congrFun enk1 (m + 3)).trans ((pmU_n _ _ (by omega)).trans ((pmU_n _ _ (by omega)).trans hR.2.2.2.1)), (congrFun enk1 (m + 4)).trans ((pmU_n _ _ (by omega)).trans ((pmU_n _ _ (by omega)).trans hR.2.2.2.2.1)), (congrFun enk1 (m + 5)).trans ((pmU_n _ _ (by omega)).trans ((pmU_n _ _ (by omega)).trans hR.2.2.2.2.2.1)), (congrFun enk1 (m + 6)).trans ((pmU_n _ _ (by omega)).trans ((pmU_n _ _ (by omega)).trans hR.2.2.2.2.2.2.1)), (congrFun enk1 (m + 7)).trans ((pmU_n _ _ (by omega)).trans ((pmU_n _ _ (by omega)).trans hR.2.2.2.2.2.2.2.1)), (congrFun enk1 (m + 8)).trans ((pmU_n _ _ (by omega)).trans ((pmU_n _ _ (by omega)).trans hR.2.2.2.2.2.2.2.2.1)), (congrFun enk1 (m + 9)).trans ((pmU_n _ _ (by omega)).trans ((pmU_n _ _ (by omega)).trans hR.2.2.2.2.2.2.2.2.2.1)), (congrFun enk1 (m + 10)).trans ((pmU_n _ _ (by omega)).trans ((pmU_n _ _ (by omega)).trans hR.2.2.2.2.2.2.2.2.2.2.1)), (congrFun enk1 (m + 11)).trans ((pmU_n _ _ (by omega)).trans ((pmU_n _ _ (by omega)).trans hR.2.2.2.2.2.2.2.2.2.2.2.1)), (congrFun enk1 (m + 12)).trans ((pmU_n _ _ (by omega)).trans ((pmU_n _ _ (by omega)).trans hR.2.2.2.2.2.2.2.2.2.2.2.2.1)), (congrFun enk1 (m + 13)).trans ((pmU_n _ _ (by omega)).trans ((pmU_n _ _ (by omega)).trans hR.2.2.2.2.2.2.2.2.2.2.2.2.2.1)), (congrFun enk1 (m + 14)).trans ((pmU_n _ _ (by omega)).trans ((pmU_n _ _ (by omega)).trans hR.2.2.2.2.2.2.2.2.2.2.2.2.2.2.1)), (congrFun enk1 (m + 15)).trans ((pmU_n _ _ (by omega)).trans ((pmU_n _ _ (by omega)).trans hR.2.2.2.2.2.2.2.2.2.2.2.2.2.2.2.1)), (congrFun enk1 (m + 16)).trans ((pmU_n _ _ (by omega)).trans ((pmU_n _ _ (by omega)).trans hR.2.2.2.2.2.2.2.2.2.2.2.2.2.2.2.2))⟩
  have sk1 := hs.trans gsk1
  refine go_vret dRef_drop_10 rfl ?_ (Nat.le_of_ble_eq_true rfl) (Nat.le_of_ble_eq_true rfl)
  exact retR_ok (β := (α.1, α.2.1, (α.2.2.1.1, 0), α.2.2.2)) (by rw [drF]) hRk1 ⟨hr.1, hr.2.1, ⟨rfl, fun i hi => absurd hi (Nat.not_lt_zero _)⟩, hr.2.2.2⟩ rfl sk1
