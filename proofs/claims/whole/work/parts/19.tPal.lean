/-! ===== Palette, Math.min, Arrays.fill (by wip/whole/gen_tPal.py) ===== -/
def mn (x y : Int32) : Int32 := if y < x then y else x
theorem fill_s {h0 h' : pmH} {a N i : Nat} {f : Nat → Int32} {x : Int32} (q : (∃ g, h' a = some (pmI N g) ∧ (∀ j, j < i + 1 → g j = upd f i x j) ∧ ∀ j, i + 1 ≤ j → j < N → g j = x) ∧ Sm h0 h' a 1) : (∃ g, h' a = some (pmI N g) ∧ (∀ j, j < i → g j = f j) ∧ ∀ j, i ≤ j → j < N → g j = x) ∧ Sm h0 h' a 1 := by
  obtain ⟨⟨g, h1, h2, h3⟩, h4⟩ := q
  refine ⟨⟨g, h1, fun j hj => by rw [h2 j (by omega), pk_un (by omega)], fun j hj hN => ?_⟩, h4⟩
  by_cases e : j = i
  · subst e; rw [h2 j (by omega), pk_us]
  · exact h3 j (by omega) hN
/-- entries as far as they are used: four numbers each -/
def PaA (h : pmH) (q : Nat) (p : aRow) : Prop := h q = some (pmO 2 [.ref (q + 1), .int (nI p.2)]) ∧ (∃ f, h (q + 1) = some (pmI 256 f) ∧ Ag (4 * p.2) f p.1) ∧ p.2 ≤ 64
theorem PaA.fr {h h' : pmH} {q : Nat} {p : aRow} (hP : PaA h q p) (h1 : h' q = h q) (h2 : h' (q + 1) = h (q + 1)) : PaA h' q p := by
  obtain ⟨h3, ⟨f, h4, h5⟩, h6⟩ := hP
  exact ⟨h1.trans h3, ⟨f, h2.trans h4, h5⟩, h6⟩
theorem PaA.sm {h h' : pmH} {q a n : Nat} {p : aRow} (hP : PaA h q p) (hs : Sm h h' a n) (hd : q + 2 ≤ a ∨ a + n ≤ q) : PaA h' q p := hP.fr (hs _ (by omega)) (hs _ (by omega))
theorem pl_4 {c : Nat} : nI c * 4 = nI (4 * c) := by rw [show (4 : Int32) = nI 4 from rfl, pk_mul, Nat.mul_comm]
def plA (p : aRow) (x y u w : Int32) : aRow := (upd (upd (upd (upd p.1 (4 * p.2) x) (4 * p.2 + 1) y) (4 * p.2 + 2) u) (4 * p.2 + 3) w, p.2 + 1)
theorem plA_ag {f : Nat → Int32} {p : aRow} {x y u w : Int32} (ha : Ag (4 * p.2) f p.1) : Ag (4 * (plA p x y u w).2) (upd (upd (upd (upd f (4 * p.2) x) (4 * p.2 + 1) y) (4 * p.2 + 2) u) (4 * p.2 + 3) w) (plA p x y u w).1 := (((ha.push x).push y).push u).push w
/-- how many alphas are to be told -/
def alN (f : Nat → Int32) : Nat → Nat
  | 0 => 0
  | c + 1 => if f (4 * c + 3) = 255 then alN f c else c + 1
theorem Go.mono {E : pmEv} {F : pmFr} {pc : Nat} {L : pmL} {st : List Value} {S : pmS} {k n : Nat} {Q Q' : pmA → pmS → Prop} (h : Go E F pc L st S k n Q) (hq : ∀ o S, Q o S → Q' o S) : Go E F pc L st S k n Q' := fun p e R s m args below meth c H locs ls h1 h2 h3 h4 T hT X => by
  obtain ⟨t, ht, oc, q1, q2, o, S', q3⟩ := h p e R s m args below meth c H locs ls h1 h2 h3 h4 T hT X
  exact ⟨t, ht, oc, q1, q2, o, S', hq _ _ q3.1, q3.2⟩
set_option maxHeartbeats 4000000 in
theorem c_Math_min {E : pmEv} {h : pmH} {z : Option Nat} {x y : Int32} : Call E mMath_min [.int x, .int y] h z 0 0 (Ret (some (.int (mn x y))) (h, z, false)) := by
  refine call_of (L := [some (.int x), some (.int y)]) ok_mMath_min (Nat.le_of_ble_eq_true rfl) ?_
  refine go_iload_n dMath_min_0 rfl ?_
  refine go_iload_n dMath_min_1 rfl ?_
  refine go_icmp_gt (tgt := 9) dMath_min_2 (fun c1 => ?_) (fun c1 => ?_)
  · refine go_iload_n dMath_min_9 rfl ?_
    refine go_iret dMath_min_10 rfl rfl ?_ (Nat.le_of_ble_eq_true rfl) (Nat.le_of_ble_eq_true rfl)
    exact ret_e (by unfold mn; first | rw [if_pos c1] | rw [if_neg (Int32.not_lt.mpr c1)] | rw [if_neg c1])
  · refine go_iload_n dMath_min_5 rfl ?_
    refine go_goto (tgt := 10) dMath_min_6 ?_
    refine go_iret dMath_min_10 rfl rfl ?_ (Nat.le_of_ble_eq_true rfl) (Nat.le_of_ble_eq_true rfl)
    exact ret_e (by unfold mn; first | rw [if_pos c1] | rw [if_neg (Int32.not_lt.mpr c1)] | rw [if_neg c1])
set_option maxHeartbeats 4000000 in
theorem c_Palette_most {E : pmEv} {h : pmH} {z : Option Nat} {x : Int32} : Call E mPalette_most [.int x] h z 0 0 (Ret (some (.int (mn 64 (gr x + 1)))) (h, z, false)) := by
  refine call_of (L := [some (.int x)]) ok_mPalette_most (Nat.le_of_ble_eq_true rfl) ?_
  refine go_bipush (v := 64) dPalette_most_0 (by decide) ?_
  refine go_iload_n dPalette_most_2 rfl ?_
  refine go_statP dPalette_most_3 ok_mShape_greatest st_mShape_greatest qm_Palette_13 c_Shape_greatest ?_ (hnp := np_mShape_greatest)
  refine go_iconst (v := 1) dPalette_most_6 (by decide) ?_
  refine go_iadd dPalette_most_7 ?_
  refine go_statP dPalette_most_8 ok_mMath_min st_mMath_min qm_Palette_19 c_Math_min ?_ (hnp := np_mMath_min)
  refine go_iret dPalette_most_11 rfl rfl ?_ (Nat.le_of_ble_eq_true rfl) (Nat.le_of_ble_eq_true rfl)
  exact ret_v
set_option maxHeartbeats 4000000 in
theorem l_Arrays_fill {E : pmEv} {h0 : pmH} {z : Option Nat} {a N : Nat} {x : Int32} (hN : N ≤ 4096) : ∀ (n : Nat) (i : Nat) (f : Nat → Int32) (h : pmH) (d : Bool), i + n = N → h a = some (pmI N f) → Sm h0 h a 1 → Go E (mArrays_fill, h0, 0, 0) 5 [some (.ref a), some (.int x), some (.int (nI i)), some (.int (nI N))] [] (h, z, d) 0 0 (RetX none (fun h' => (∃ g, h' a = some (pmI N g) ∧ (∀ j, j < i → g j = f j) ∧ ∀ j, i ≤ j → j < N → g j = x) ∧ Sm h0 h' a 1) z) := by
  intro n
  induction n with
  | zero =>
    intro i f h d hi hA hs
    refine go_iload_n dArrays_fill_5 rfl ?_
    refine go_iload_n dArrays_fill_6 rfl ?_
    refine go_icmp_ge (tgt := 20) dArrays_fill_7 (fun c1 => ?_) (fun c1 => ?_)
    · refine go_vret dArrays_fill_20 rfl ?_ (Nat.le_of_ble_eq_true rfl) (Nat.le_of_ble_eq_true rfl)
      exact retX ⟨⟨f, hA, fun _ _ => rfl, fun j h1 h2 => absurd h1 (by omega)⟩, hs⟩
    · exact absurd (nI_le (a := N) (b := i) (by omega) (by omega)) c1
  | succ n ih =>
    intro i f h d hi hA hs
    refine go_iload_n dArrays_fill_5 rfl ?_
    refine go_iload_n dArrays_fill_6 rfl ?_
    refine go_icmp_ge (tgt := 20) dArrays_fill_7 (fun c1 => ?_) (fun c1 => ?_)
    · exact absurd c1 (nI_ge (a := i) (b := N) (by omega) (by omega))
    · refine go_aload_n dArrays_fill_10 rfl ?_
      refine go_iload_n dArrays_fill_11 rfl ?_
      refine go_iload_n dArrays_fill_12 rfl ?_
      refine go_iast dArrays_fill_13 hA (by exact vp_in_nI (by omega) (by omega)) (nI_clamp (by omega)) ?_
      refine go_iinc dArrays_fill_14 rfl (congrArg (_ + ·) lit1) ?_
      refine go_goto (tgt := 5) dArrays_fill_17 ?_
      have := ih (i + 1) _ _ true (by omega) (pmU_s h a (pmI N (upd f i x))) (hs.put' _ (by omega) (by omega))
      rw [nI_succ] at this
      exact this.mono fun o S q => ⟨q.1, fill_s q.2.1, q.2.2⟩
set_option maxHeartbeats 4000000 in
theorem a_Arrays_fill {E : pmEv} {h : pmH} {z : Option Nat} {a N : Nat} {f : Nat → Int32} {x : Int32} (hN : N ≤ 4096) (hA : h a = some (pmI N f)) : Call E mArrays_fill [.ref a, .int x] h z 0 0 (RetX none (fun h' => (∃ g, h' a = some (pmI N g) ∧ ∀ j, j < N → g j = x) ∧ Sm h h' a 1) z) := by
  refine call_of (L := [some (.ref a), some (.int x), none, none]) ok_mArrays_fill (Nat.le_of_ble_eq_true rfl) ?_
  refine go_iconst (v := 0) dArrays_fill_0 (by decide) ?_
  refine go_istore_n dArrays_fill_1 ?_
  refine go_aload_n dArrays_fill_2 rfl ?_
  refine go_alen dArrays_fill_3 hA rfl ?_
  refine go_istore_n dArrays_fill_4 ?_
  exact (l_Arrays_fill hN N 0 f h false (by omega) hA (Sm.refl _ _ _)).mono fun o S q => ⟨q.1, ⟨q.2.1.1.imp fun g q => ⟨q.1, fun j hj => q.2.2 j (Nat.zero_le _) hj⟩, q.2.1.2⟩, q.2.2⟩
set_option maxHeartbeats 4000000 in
theorem a_Palette_clear {E : pmEv} {h : pmH} {z : Option Nat} {q : Nat} {p : aRow} (hP : PaA h q p) : Call E mPalette_clear [.ref q] h z 0 0 (RetX none (fun h' => PaA h' q (p.1, 0) ∧ Sm h h' q 2) z) := by
  obtain ⟨h1, ⟨f, h2, ha⟩, hc⟩ := hP
  refine call_of (L := [some (.ref q)]) ok_mPalette_clear (Nat.le_of_ble_eq_true rfl) ?_
  refine go_aload_n dPalette_clear_0 rfl ?_
  refine go_iconst (v := 0) dPalette_clear_1 (by decide) ?_
  refine go_putf dPalette_clear_2 qf_Palette_25 pw_2_1 h1 rfl rfl ?_
  refine go_vret dPalette_clear_5 rfl ?_ (Nat.le_of_ble_eq_true rfl) (Nat.le_of_ble_eq_true rfl)
  exact retX ⟨⟨(pmU_s _ _ _), ⟨f, ((pmU_n _ _ (by omega)).trans h2), fun i hi => absurd hi (by simp)⟩, by simp⟩, (Sm.put' (Sm.refl _ _ _) _ (by omega) (by omega))⟩
set_option maxHeartbeats 4000000 in
theorem a_Palette_has {E : pmEv} {h : pmH} {z : Option Nat} {q : Nat} {p : aRow} {i : Int32} (hP : PaA h q p) : Call E mPalette_has [.ref q, .int i] h z 0 0 (Ret (some (.int (bI (0 ≤ i ∧ i < nI p.2)))) (h, z, false)) := by
  obtain ⟨h1, ⟨f, h2, ha⟩, hc⟩ := hP
  refine call_of (L := [some (.ref q), some (.int i)]) ok_mPalette_has (Nat.le_of_ble_eq_true rfl) ?_
  refine go_iload_n dPalette_has_0 rfl ?_
  refine go_if_lt (tgt := 16) dPalette_has_1 (fun c1 => ?_) (fun c1 => ?_)
  · refine go_iconst (v := 0) dPalette_has_16 (by decide) ?_
    refine go_iret dPalette_has_17 rfl rfl ?_ (Nat.le_of_ble_eq_true rfl) (Nat.le_of_ble_eq_true rfl)
    first | exact ret_bf (fun q => absurd q.1 (Int32.not_le.mpr c1)) | exact ret_bf (fun q => absurd q.2 (Int32.not_lt.mpr c2))
  · refine go_iload_n dPalette_has_4 rfl ?_
    refine go_aload_n dPalette_has_5 rfl ?_
    refine go_getf dPalette_has_6 qf_Palette_25 h1 rfl ?_
    refine go_icmp_ge (tgt := 16) dPalette_has_9 (fun c2 => ?_) (fun c2 => ?_)
    · refine go_iconst (v := 0) dPalette_has_16 (by decide) ?_
      refine go_iret dPalette_has_17 rfl rfl ?_ (Nat.le_of_ble_eq_true rfl) (Nat.le_of_ble_eq_true rfl)
      first | exact ret_bf (fun q => absurd q.1 (Int32.not_le.mpr c1)) | exact ret_bf (fun q => absurd q.2 (Int32.not_lt.mpr c2))
    · refine go_iconst (v := 1) dPalette_has_12 (by decide) ?_
      refine go_goto (tgt := 17) dPalette_has_13 ?_
      refine go_iret dPalette_has_17 rfl rfl ?_ (Nat.le_of_ble_eq_true rfl) (Nat.le_of_ble_eq_true rfl)
      exact ret_bt ⟨Int32.not_lt.mp c1, Int32.not_le.mp c2⟩
set_option maxHeartbeats 4000000 in
theorem a_Palette_part {E : pmEv} {h : pmH} {z : Option Nat} {q : Nat} {p : aRow} {k w : Nat} (hk : k < p.2) (hw : w < 4) (hP : PaA h q p) : Call E mPalette_part [.ref q, .int (nI k), .int (nI w)] h z 0 0 (Ret (some (.int (p.1 (4 * k + w)))) (h, z, false)) := by
  have h1 := hP.1
  obtain ⟨f, h2, ha⟩ := hP.2.1
  have hc := hP.2.2
  refine call_of (L := [some (.ref q), some (.int (nI k)), some (.int (nI w))]) ok_mPalette_part (Nat.le_of_ble_eq_true rfl) ?_
  refine go_aload_n dPalette_part_0 rfl ?_
  refine go_iload_n dPalette_part_1 rfl ?_
  refine go_virtP dPalette_part_2 ok_mPalette_has im_mPalette_has se_mPalette_has qm_Palette_29 h1 (a_Palette_has hP) ?_ (hnp := np_mPalette_has)
  refine go_ifeq_b (tgt := 30) dPalette_part_5 (fun c1 => ?_) (fun c1 => ?_)
  · refine go_iconst (v := 0) dPalette_part_30 (by decide) ?_
    refine go_iret dPalette_part_31 rfl rfl ?_ (Nat.le_of_ble_eq_true rfl) (Nat.le_of_ble_eq_true rfl)
    exact absurd ((has_n (by omega) (by omega)).mpr hk) c1
  · refine go_iload_n dPalette_part_8 rfl ?_
    refine go_if_lt (tgt := 30) dPalette_part_9 (fun c2 => ?_) (fun c2 => ?_)
    · refine go_iconst (v := 0) dPalette_part_30 (by decide) ?_
      refine go_iret dPalette_part_31 rfl rfl ?_ (Nat.le_of_ble_eq_true rfl) (Nat.le_of_ble_eq_true rfl)
      exact absurd c2 (nI_pos (by omega))
    · refine go_iload_n dPalette_part_12 rfl ?_
      refine go_iconst (v := 4) dPalette_part_13 (by decide) ?_
      refine go_icmp_ge (tgt := 30) dPalette_part_14 (fun c3 => ?_) (fun c3 => ?_)
      · refine go_iconst (v := 0) dPalette_part_30 (by decide) ?_
        refine go_iret dPalette_part_31 rfl rfl ?_ (Nat.le_of_ble_eq_true rfl) (Nat.le_of_ble_eq_true rfl)
        exact absurd c3 (nI_ge (b := 4) hw (by omega))
      · refine go_aload_n dPalette_part_17 rfl ?_
        refine go_getf dPalette_part_18 qf_Palette_9 h1 rfl ?_
        refine go_iload_n dPalette_part_21 rfl ?_
        refine go_iconst (v := 4) dPalette_part_22 (by decide) ?_
        refine go_imul dPalette_part_23 ?_
        refine go_iload_n dPalette_part_24 rfl ?_
        refine go_iadd dPalette_part_25 ?_
        rw [pl_4, nI_add]
        refine go_iald dPalette_part_26 h2 (by exact vp_in_nI (by omega) (by omega)) (congrArg _ (nI_clamp (by omega))) ?_
        refine go_goto (tgt := 31) dPalette_part_27 ?_
        refine go_iret dPalette_part_31 rfl rfl ?_ (Nat.le_of_ble_eq_true rfl) (Nat.le_of_ble_eq_true rfl)
        exact ret_e (by rw [ha _ (by omega)])
set_option maxHeartbeats 4000000 in
theorem a_Palette_setAlpha {E : pmEv} {h : pmH} {z : Option Nat} {q : Nat} {p : aRow} {k : Nat} {x : Int32} (hk : k < p.2) (hP : PaA h q p) : Call E mPalette_setAlpha [.ref q, .int (nI k), .int x] h z 0 0 (RetX none (fun h' => PaA h' q (upd p.1 (4 * k + 3) x, p.2) ∧ Sm h h' q 2) z) := by
  have h1 := hP.1
  obtain ⟨f, h2, ha⟩ := hP.2.1
  have hc := hP.2.2
  refine call_of (L := [some (.ref q), some (.int (nI k)), some (.int x)]) ok_mPalette_setAlpha (Nat.le_of_ble_eq_true rfl) ?_
  refine go_aload_n dPalette_setAlpha_0 rfl ?_
  refine go_iload_n dPalette_setAlpha_1 rfl ?_
  refine go_virtP dPalette_setAlpha_2 ok_mPalette_has im_mPalette_has se_mPalette_has qm_Palette_29 h1 (a_Palette_has hP) ?_ (hnp := np_mPalette_has)
  refine go_ifeq_b (tgt := 19) dPalette_setAlpha_5 (fun c1 => ?_) (fun c1 => ?_)
  · refine go_vret dPalette_setAlpha_19 rfl ?_ (Nat.le_of_ble_eq_true rfl) (Nat.le_of_ble_eq_true rfl)
    exact absurd ((has_n (by omega) (by omega)).mpr hk) c1
  · refine go_aload_n dPalette_setAlpha_8 rfl ?_
    refine go_getf dPalette_setAlpha_9 qf_Palette_9 h1 rfl ?_
    refine go_iload_n dPalette_setAlpha_12 rfl ?_
    refine go_iconst (v := 4) dPalette_setAlpha_13 (by decide) ?_
    refine go_imul dPalette_setAlpha_14 ?_
    refine go_iconst (v := 3) dPalette_setAlpha_15 (by decide) ?_
    refine go_iadd dPalette_setAlpha_16 ?_
    rw [pl_4, nI_a3]
    refine go_iload_n dPalette_setAlpha_17 rfl ?_
    refine go_iast dPalette_setAlpha_18 h2 (by exact vp_in_nI (by omega) (by omega)) (nI_clamp (by omega)) ?_
    refine go_vret dPalette_setAlpha_19 rfl ?_ (Nat.le_of_ble_eq_true rfl) (Nat.le_of_ble_eq_true rfl)
    exact retX ⟨⟨((pmU_n _ _ (by omega)).trans h1), ⟨_, (pmU_s _ _ _), ha.up _ _⟩, hc⟩, (Sm.put' (Sm.refl _ _ _) _ (by omega) (by omega))⟩
set_option maxHeartbeats 4000000 in
theorem a_Palette_add {E : pmEv} {h : pmH} {z : Option Nat} {q : Nat} {p : aRow} {x y u w : Int32} (hl : p.2 < 64) (hP : PaA h q p) : Call E mPalette_add [.ref q, .int x, .int y, .int u, .int w] h z 0 0 (RetX none (fun h' => PaA h' q (plA p x y u w) ∧ Sm h h' q 2) z) := by
  have h1 := hP.1
  obtain ⟨f, h2, ha⟩ := hP.2.1
  have hc := hP.2.2
  refine call_of (L := [some (.ref q), some (.int x), some (.int y), some (.int u), some (.int w), none]) ok_mPalette_add (Nat.le_of_ble_eq_true rfl) ?_
  refine go_aload_n dPalette_add_0 rfl ?_
  refine go_getf dPalette_add_1 qf_Palette_25 h1 rfl ?_
  refine go_bipush (v := 64) dPalette_add_4 (by decide) ?_
  refine go_icmp_ge (tgt := 66) dPalette_add_6 (fun c1 => ?_) (fun c1 => ?_)
  · refine go_vret dPalette_add_66 rfl ?_ (Nat.le_of_ble_eq_true rfl) (Nat.le_of_ble_eq_true rfl)
    exact absurd c1 (nI_ge (b := 64) hl (by omega))
  · refine go_aload_n dPalette_add_9 rfl ?_
    refine go_getf dPalette_add_10 qf_Palette_25 h1 rfl ?_
    refine go_iconst (v := 4) dPalette_add_13 (by decide) ?_
    refine go_imul dPalette_add_14 ?_
    rw [pl_4]
    refine go_istore dPalette_add_15 ?_
    refine go_aload_n dPalette_add_17 rfl ?_
    refine go_getf dPalette_add_18 qf_Palette_9 h1 rfl ?_
    refine go_iload dPalette_add_21 rfl ?_
    refine go_iload_n dPalette_add_23 rfl ?_
    refine go_iast dPalette_add_24 h2 (by exact vp_in_nI (by omega) (by omega)) (nI_clamp (by omega)) ?_
    refine go_aload_n dPalette_add_25 rfl ?_
    refine go_getf dPalette_add_26 qf_Palette_9 ((pmU_n _ _ (by omega)).trans h1) rfl ?_
    refine go_iload dPalette_add_29 rfl ?_
    refine go_iconst (v := 1) dPalette_add_31 (by decide) ?_
    refine go_iadd dPalette_add_32 ?_
    rw [nI_a1]
    refine go_iload_n dPalette_add_33 rfl ?_
    refine go_iast dPalette_add_34 (pmU_s _ _ _) (by exact vp_in_nI (by omega) (by omega)) (nI_clamp (by omega)) ?_
    refine go_aload_n dPalette_add_35 rfl ?_
    refine go_getf dPalette_add_36 qf_Palette_9 ((pmU_n _ _ (by omega)).trans ((pmU_n _ _ (by omega)).trans h1)) rfl ?_
    refine go_iload dPalette_add_39 rfl ?_
    refine go_iconst (v := 2) dPalette_add_41 (by decide) ?_
    refine go_iadd dPalette_add_42 ?_
    rw [nI_a2]
    refine go_iload_n dPalette_add_43 rfl ?_
    refine go_iast dPalette_add_44 (pmU_s _ _ _) (by exact vp_in_nI (by omega) (by omega)) (nI_clamp (by omega)) ?_
    refine go_aload_n dPalette_add_45 rfl ?_
    refine go_getf dPalette_add_46 qf_Palette_9 ((pmU_n _ _ (by omega)).trans ((pmU_n _ _ (by omega)).trans ((pmU_n _ _ (by omega)).trans h1))) rfl ?_
    refine go_iload dPalette_add_49 rfl ?_
    refine go_iconst (v := 3) dPalette_add_51 (by decide) ?_
    refine go_iadd dPalette_add_52 ?_
    rw [nI_a3]
    refine go_iload dPalette_add_53 rfl ?_
    refine go_iast dPalette_add_55 (pmU_s _ _ _) (by exact vp_in_nI (by omega) (by omega)) (nI_clamp (by omega)) ?_
    refine go_aload_n dPalette_add_56 rfl ?_
    refine go_dup dPalette_add_57 rfl ?_
    refine go_getf dPalette_add_58 qf_Palette_25 ((pmU_n _ _ (by omega)).trans ((pmU_n _ _ (by omega)).trans ((pmU_n _ _ (by omega)).trans ((pmU_n _ _ (by omega)).trans h1)))) rfl ?_
    refine go_iconst (v := 1) dPalette_add_61 (by decide) ?_
    refine go_iadd dPalette_add_62 ?_
    refine go_putf dPalette_add_63 qf_Palette_25 pw_2_1 ((pmU_n _ _ (by omega)).trans ((pmU_n _ _ (by omega)).trans ((pmU_n _ _ (by omega)).trans ((pmU_n _ _ (by omega)).trans h1)))) rfl rfl ?_
    refine go_vret dPalette_add_66 rfl ?_ (Nat.le_of_ble_eq_true rfl) (Nat.le_of_ble_eq_true rfl)
    exact retX ⟨⟨by rw [plA, nI_succ]; exact (pmU_s _ _ _), ⟨_, ((pmU_n _ _ (by omega)).trans (pmU_s _ _ _)), plA_ag ha⟩, hl⟩, (Sm.put' (Sm.put' (Sm.put' (Sm.put' (Sm.put' (Sm.refl _ _ _) _ (by omega) (by omega)) _ (by omega) (by omega)) _ (by omega) (by omega)) _ (by omega) (by omega)) _ (by omega) (by omega))⟩
set_option maxHeartbeats 4000000 in
theorem l_Palette_alphasToTell {E : pmEv} {h : pmH} {z : Option Nat} {q : Nat} {p : aRow} (hP : PaA h q p) : ∀ (n : Nat), n ≤ p.2 → Go E (mPalette_alphasToTell, h, 0, 0) 5 [some (.ref q), some (.int (nI n))] [] (h, z, false) 0 0 (Ret (some (.int (nI (alN p.1 n)))) (h, z, false)) := by
  intro n
  induction n with
  | zero =>
    intro  hn
    have h1 := hP.1
    have hc := hP.2.2
    refine go_iload_n dPalette_alphasToTell_5 rfl ?_
    refine go_if_le (tgt := 29) dPalette_alphasToTell_6 (fun c1 => ?_) (fun c1 => ?_)
    · refine go_iload_n dPalette_alphasToTell_29 rfl ?_
      refine go_iret dPalette_alphasToTell_30 rfl rfl ?_ (Nat.le_of_ble_eq_true rfl) (Nat.le_of_ble_eq_true rfl)
      exact ret_v
    · exact absurd (by decide) c1
  | succ n ih =>
    intro  hn
    have h1 := hP.1
    have hc := hP.2.2
    refine go_iload_n dPalette_alphasToTell_5 rfl ?_
    refine go_if_le (tgt := 29) dPalette_alphasToTell_6 (fun c1 => ?_) (fun c1 => ?_)
    · exact absurd c1 (nI_nle (by omega) (by omega))
    · refine go_aload_n dPalette_alphasToTell_9 rfl ?_
      refine go_iload_n dPalette_alphasToTell_10 rfl ?_
      refine go_iconst (v := 1) dPalette_alphasToTell_11 (by decide) ?_
      refine go_isub dPalette_alphasToTell_12 ?_
      rw [nI_pred]
      refine go_iconst (v := 3) dPalette_alphasToTell_13 (by decide) ?_
      refine go_virtP dPalette_alphasToTell_14 ok_mPalette_part im_mPalette_part se_mPalette_part qm_Palette_33 h1 (a_Palette_part (k := n) (w := 3) (by omega) (by omega) hP) ?_ (hnp := np_mPalette_part)
      refine go_sipush (v := 255) dPalette_alphasToTell_17 (by decide) ?_
      refine go_icmp_ne (tgt := 29) dPalette_alphasToTell_20 (fun c2 => ?_) (fun c2 => ?_)
      · refine go_iload_n dPalette_alphasToTell_29 rfl ?_
        refine go_iret dPalette_alphasToTell_30 rfl rfl ?_ (Nat.le_of_ble_eq_true rfl) (Nat.le_of_ble_eq_true rfl)
        exact ret_e (by rw [alN, if_neg c2])
      · refine go_iinc dPalette_alphasToTell_23 rfl rfl ?_
        refine go_goto (tgt := 5) dPalette_alphasToTell_26 ?_
        rw [alN, if_pos c2]
        have := ih (by omega)
        rw [← pk_m1] at this
        exact this
set_option maxHeartbeats 4000000 in
theorem a_Palette_alphasToTell {E : pmEv} {h : pmH} {z : Option Nat} {q : Nat} {p : aRow} (hP : PaA h q p) : Call E mPalette_alphasToTell [.ref q] h z 0 0 (Ret (some (.int (nI (alN p.1 p.2)))) (h, z, false)) := by
  have h1 := hP.1
  refine call_of (L := [some (.ref q), none]) ok_mPalette_alphasToTell (Nat.le_of_ble_eq_true rfl) ?_
  refine go_aload_n dPalette_alphasToTell_0 rfl ?_
  refine go_getf dPalette_alphasToTell_1 qf_Palette_25 h1 rfl ?_
  refine go_istore_n dPalette_alphasToTell_4 ?_
  exact l_Palette_alphasToTell hP p.2 (Nat.le_refl _)
set_option maxHeartbeats 4000000 in
theorem a_Palette_copyFrom {E : pmEv} {h : pmH} {z : Option Nat} {q t : Nat} {p p2 : aRow} (hd : q + 2 ≤ t ∨ t + 2 ≤ q) (hP : PaA h q p) (hT : PaA h t p2) : Call E mPalette_copyFrom [.ref q, .ref t] h z 0 0 (RetX none (fun h' => PaA h' q p2 ∧ Sm h h' q 2) z) := by
  have h1 := hP.1
  obtain ⟨f, h2, ha⟩ := hP.2.1
  have hc := hP.2.2
  have g1 := hT.1
  obtain ⟨g, g2, gb⟩ := hT.2.1
  have hc2 := hT.2.2
  refine call_of (L := [some (.ref q), some (.ref t)]) ok_mPalette_copyFrom (Nat.le_of_ble_eq_true rfl) ?_
  refine go_aload_n dPalette_copyFrom_0 rfl ?_
  refine go_aload_n dPalette_copyFrom_1 rfl ?_
  refine go_getf dPalette_copyFrom_2 qf_Palette_25 g1 rfl ?_
  refine go_putf dPalette_copyFrom_5 qf_Palette_25 pw_2_1 h1 rfl rfl ?_
  refine go_aload_n dPalette_copyFrom_8 rfl ?_
  refine go_getf dPalette_copyFrom_9 qf_Palette_9 ((pmU_n _ _ (by omega)).trans g1) rfl ?_
  refine go_iconst (v := 0) dPalette_copyFrom_12 (by decide) ?_
  refine go_aload_n dPalette_copyFrom_13 rfl ?_
  refine go_getf dPalette_copyFrom_14 qf_Palette_9 (pmU_s _ _ _) rfl ?_
  refine go_iconst (v := 0) dPalette_copyFrom_17 (by decide) ?_
  refine go_aload_n dPalette_copyFrom_18 rfl ?_
  refine go_getf dPalette_copyFrom_19 qf_Palette_9 (pmU_s _ _ _) rfl ?_
  refine go_alen dPalette_copyFrom_22 ((pmU_n _ _ (by omega)).trans h2) rfl ?_
  refine go_copy dPalette_copyFrom_23 qp_Palette_36 ((pmU_n _ _ (by omega)).trans g2) ((pmU_n _ _ (by omega)).trans h2) (by decide) (by decide) (by decide) (by decide) (by decide) ?_
  refine go_vret dPalette_copyFrom_26 rfl ?_ (Nat.le_of_ble_eq_true rfl) (Nat.le_of_ble_eq_true rfl)
  exact retX ⟨⟨((pmU_n _ _ (by omega)).trans (pmU_s _ _ _)), ⟨_, (pmU_s _ _ _), fun i hi => (pk_cpy_in (by simp) (by simp; omega)).trans (by simpa using gb i hi)⟩, hT.2.2⟩, (Sm.put' (Sm.put' (Sm.refl _ _ _) _ (by omega) (by omega)) _ (by omega) (by omega))⟩
