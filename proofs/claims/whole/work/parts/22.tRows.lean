/-! ===== Rows (by wip/whole/gen_tRows.py) ===== -/
def rbN (d : Nat × Nat × Nat × Nat) : Nat := d.1 * chN d.2.2.2 * d.2.2.1
def rlN (d : Nat × Nat × Nat × Nat) : Nat := 1 + (rbN d + 7) / 8
theorem okN.b {d : Nat × Nat × Nat × Nat} (h : okN d) : 1 ≤ d.2.2.1 ∧ d.2.2.1 ≤ 8 := by
  unfold okN at h
  omega
theorem rbN_le {d : Nat × Nat × Nat × Nat} (h : okN d) : rbN d ≤ 384 := by
  have h1 := h.w
  have h2 := h.b
  have h3 := chN_le d.2.2.2
  have h4 : d.1 * chN d.2.2.2 ≤ 12 * 4 := Nat.mul_le_mul h1.1 h3.2
  exact Nat.le_trans (Nat.mul_le_mul h4 h2.2) (by decide)
theorem rl_n {d : Nat × Nat × Nat × Nat} (h : okN d) : 1 + (nI (rbN d) + 7) / 8 = nI (rlN d) := by
  have h1 := rbN_le h
  rw [show (7 : Int32) = nI 7 from rfl, show (8 : Int32) = nI 8 from rfl, nI_add, pk_div (by omega) (by omega) (by omega), show (1 : Int32) = nI 1 from rfl, nI_add]
  rfl
theorem and7 {n : Nat} (h : n < 2 ^ 32) : nI n &&& 7 = nI (n % 8) := pk_andN h 3 (by decide)
abbrev fillOk (d : Nat × Nat × Nat × Nat) (x : Int32) : Prop := rbN d % 8 = 0 ∨ x &&& gr (nI (8 - rbN d % 8)) = 0
/-- the bytes so far; the bits of the next one; how many they are -/
abbrev pkS : Type := aRow × Int32 × Int32
def pkStep (b : Nat) (v : Int32) (q : pkS) : pkS := if q.2.2 + nI b = 8 then (wA q.1 (q.2.1 <<< (nI b &&& 31) ||| v), 0, 0) else (q.1, q.2.1 <<< (nI b &&& 31) ||| v, q.2.2 + nI b)
def pkIn (π : aPic) (y x : Nat) : Nat → Nat → pkS → pkS
  | 0, _, q => q
  | n + 1, u, q => pkIn π y x n (u + 1) (pkStep π.1.2.2.1 (π.2.1 ((y * 12 + x) * 4 + u)) q)
def pkOut (π : aPic) (y : Nat) : Nat → Nat → pkS → pkS
  | 0, _, q => q
  | n + 1, x, q => pkOut π y n (x + 1) (pkIn π y x (chN π.1.2.2.2) 0 q)
def pkEnd (q : pkS) : aRow := if 0 < q.2.2 then wA q.1 (q.2.1 <<< ((8 - q.2.2) &&& 31)) else q.1
def pkAll (π : aPic) : Nat → Nat → aRow → aRow
  | 0, _, p => p
  | n + 1, y, p => pkAll π n (y + 1) (pkEnd (pkOut π y π.1.1 0 (wA p 0, 0, 0)))
/-- a slot may be forgotten -/
theorem go_fg {E : pmEv} {F : pmFr} {pc : Nat} {L L' : pmL} {st : List Value} {S : pmS} {k n : Nat} {Q : pmA → pmS → Prop} (i : Nat) (h : Go E F pc L' st S k n Q) (hL : L.set i none = L' := by rfl) : Go E F pc L st S k n Q := by
  intro p e R s m args below meth c H locs ls hI hA hl hn
  subst hL
  refine h p e R s m args below meth c H locs ls hI hA ⟨by rw [hl.1, List.length_set], hl.2.1, fun j v hj => ?_⟩ (by rw [List.length_set]; exact hn)
  by_cases e : i = j
  · subst e
    rw [List.getElem?_set] at hj
    simp at hj
  · rw [List.getElem?_set_ne e] at hj
    exact hl.2.2 j v hj
/-- the sample that a row's bytes have -/
def upV (π : aPic) (ρ : aRow) (y x u : Nat) : Int32 := u4 (bv ρ.1 ρ.2 (nI (y * rlN π.1 + 1) + nI ((x * chN π.1.2.2.2 + u) * π.1.2.2.1) >>> (3 &&& 31))) (8 - nI π.1.2.2.1 - (nI ((x * chN π.1.2.2.2 + u) * π.1.2.2.1) &&& 7)) &&& gr (nI π.1.2.2.1)
abbrev upRow (π : aPic) (ρ : aRow) (y : Nat) : Prop := ∀ x, x < π.1.1 → ∀ u, u < chN π.1.2.2.2 → smOk π (upV π ρ y x u)
abbrev upAt (π : aPic) (ρ : aRow) (y : Nat) : Prop := bv ρ.1 ρ.2 (nI (y * rlN π.1)) = 0 ∧ fillOk π.1 (bv ρ.1 ρ.2 (nI (y * rlN π.1) + nI (rlN π.1) - 1)) ∧ upRow π ρ y
abbrev upOk (π : aPic) (ρ : aRow) : Prop := ∀ y, y < π.1.2.1 → upAt π ρ y
theorem up_bit {x c u b : Nat} : nI ((x * c + (u + 1)) * b) = nI ((x * c + u) * b) + nI b := by rw [nI_add, ← Nat.add_assoc, Nat.add_mul (x * c + u) 1 b, Nat.one_mul]
theorem up_row {x c b : Nat} : nI (((x + 1) * c + 0) * b) = nI ((x * c + c) * b) := by rw [Nat.add_zero, Nat.add_mul x 1 c, Nat.one_mul]
theorem up_zero {c b : Nat} : nI ((0 * c + 0) * b) = 0 := by rw [Nat.zero_mul, Nat.add_zero, Nat.zero_mul]; rfl
def UpI (π : aPic) (ρ : aRow) (y : Nat) (s0 s : Nat → Int32) (x u : Nat) : Prop := (∀ j, j < y * 48 → s j = s0 j) ∧ ∀ x' u', u' < chN π.1.2.2.2 → (x' < x ∨ x' = x ∧ u' < u) → smOk π (upV π ρ y x' u') ∧ s ((y * 12 + x') * 4 + u') = upV π ρ y x' u'
theorem UpI.zero {π : aPic} {ρ : aRow} {y : Nat} {s : Nat → Int32} : UpI π ρ y s s 0 0 := ⟨fun _ _ => rfl, fun x' u' _ h => by omega⟩
theorem UpI.row {π : aPic} {ρ : aRow} {y : Nat} {s0 s : Nat → Int32} {x : Nat} (h : UpI π ρ y s0 s x (chN π.1.2.2.2)) : UpI π ρ y s0 s (x + 1) 0 := ⟨h.1, fun x' u' hu h' => h.2 x' u' hu (by omega)⟩
theorem UpI.step {π : aPic} {ρ : aRow} {y : Nat} {s0 s : Nat → Int32} {x u : Nat} (h : UpI π ρ y s0 s x u) (hu : u < chN π.1.2.2.2) (hv : smOk π (upV π ρ y x u)) : UpI π ρ y s0 (upd s ((y * 12 + x) * 4 + u) (upV π ρ y x u)) x (u + 1) := by
  have hc := chN_le π.1.2.2.2
  refine ⟨fun j hj => ?_, fun x' u' hu' h' => ?_⟩
  · rw [pk_un (by omega)]
    exact h.1 j hj
  · by_cases e : x' = x ∧ u' = u
    · obtain ⟨rfl, rfl⟩ := e
      exact ⟨hv, pk_us⟩
    · rw [pk_un (by omega)]
      exact h.2 x' u' hu' (by omega)
theorem UpI.all {π : aPic} {ρ : aRow} {y : Nat} {s0 s : Nat → Int32} (h : UpI π ρ y s0 s π.1.1 0) : upRow π ρ y := fun x hx u hu => (h.2 x u hu (Or.inl hx)).1
theorem UpI.val {π : aPic} {ρ : aRow} {y : Nat} {s0 s : Nat → Int32} (h : UpI π ρ y s0 s π.1.1 0) : ∀ x, x < π.1.1 → ∀ u, u < chN π.1.2.2.2 → s ((y * 12 + x) * 4 + u) = upV π ρ y x u := fun x hx u hu => (h.2 x u hu (Or.inl hx)).2
theorem upAll {π : aPic} {ρ : aRow} {y : Nat} {s s2 : Nat → Int32} (hwh : π.1.1 ≤ 12 ∧ π.1.2.1 ≤ 12) (hch : 1 ≤ chN π.1.2.2.2 ∧ chN π.1.2.2.2 ≤ 4) (hI : ∀ y', y' < y → upAt π ρ y' ∧ ∀ x, x < π.1.1 → ∀ u, u < chN π.1.2.2.2 → s ((y' * 12 + x) * 4 + u) = upV π ρ y' x u) (hc : upAt π ρ y) (h1 : ∀ j, j < y * 48 → s2 j = s j) (h2 : ∀ x, x < π.1.1 → ∀ u, u < chN π.1.2.2.2 → s2 ((y * 12 + x) * 4 + u) = upV π ρ y x u) : ∀ y', y' < y + 1 → upAt π ρ y' ∧ ∀ x, x < π.1.1 → ∀ u, u < chN π.1.2.2.2 → s2 ((y' * 12 + x) * 4 + u) = upV π ρ y' x u := fun y' hy' => by
  by_cases e : y' = y
  · subst e
    exact ⟨hc, h2⟩
  · exact ⟨(hI y' (by omega)).1, fun x hx u hu => (h1 _ (by omega)).trans ((hI y' (by omega)).2 x hx u hu)⟩
set_option maxHeartbeats 4000000 in
theorem a_Rows_rowBits {E : pmEv} {h : pmH} {z : Option Nat} {p : Nat} {t : Bool} {π : aPic} (hP : PiA h p t π) : Call E mRows_rowBits [.ref p] h z 0 0 (Ret (some (.int (nI (rbN π.1)))) (h, z, false)) := by
  refine call_of (L := [some (.ref p)]) ok_mRows_rowBits (Nat.le_of_ble_eq_true rfl) ?_
  refine go_aload_n dRows_rowBits_0 rfl ?_
  refine go_getf dRows_rowBits_1 qf_Rows_46 hP.1 rfl ?_
  refine go_aload_n dRows_rowBits_4 rfl ?_
  refine go_getf dRows_rowBits_5 qf_Rows_49 hP.1 rfl ?_
  refine go_imul dRows_rowBits_8 ?_
  refine go_aload_n dRows_rowBits_9 rfl ?_
  refine go_getf dRows_rowBits_10 qf_Rows_52 hP.1 rfl ?_
  refine go_imul dRows_rowBits_13 ?_
  refine go_iret dRows_rowBits_14 rfl rfl ?_ (Nat.le_of_ble_eq_true rfl) (Nat.le_of_ble_eq_true rfl)
  exact ret_e (by rw [pk_mul, pk_mul]; rfl)
set_option maxHeartbeats 4000000 in
theorem a_Rows_rowLength {E : pmEv} {h : pmH} {z : Option Nat} {p : Nat} {t : Bool} {π : aPic} (hP : PiA h p t π) : Call E mRows_rowLength [.ref p] h z 0 0 (Ret (some (.int (nI (rlN π.1)))) (h, z, false)) := by
  refine call_of (L := [some (.ref p)]) ok_mRows_rowLength (Nat.le_of_ble_eq_true rfl) ?_
  refine go_iconst (v := 1) dRows_rowLength_0 (by decide) ?_
  refine go_aload_n dRows_rowLength_1 rfl ?_
  refine go_statP dRows_rowLength_2 ok_mRows_rowBits st_mRows_rowBits qm_Rows_70 (a_Rows_rowBits hP) ?_ (hnp := np_mRows_rowBits)
  refine go_bipush (v := 7) dRows_rowLength_5 (by decide) ?_
  refine go_iadd dRows_rowLength_7 ?_
  refine go_bipush (v := 8) dRows_rowLength_8 (by decide) ?_
  refine go_idiv dRows_rowLength_10 (by decide) ?_
  refine go_iadd dRows_rowLength_11 ?_
  refine go_iret dRows_rowLength_12 rfl rfl ?_ (Nat.le_of_ble_eq_true rfl) (Nat.le_of_ble_eq_true rfl)
  exact ret_e (by rw [rl_n hP.2.2.2.2.2])
set_option maxHeartbeats 4000000 in
theorem a_Rows_lengthOf {E : pmEv} {h : pmH} {z : Option Nat} {p : Nat} {t : Bool} {π : aPic} (hP : PiA h p t π) : Call E mRows_lengthOf [.ref p] h z 0 0 (Ret (some (.int (nI (rlN π.1 * π.1.2.1)))) (h, z, false)) := by
  refine call_of (L := [some (.ref p)]) ok_mRows_lengthOf (Nat.le_of_ble_eq_true rfl) ?_
  refine go_aload_n dRows_lengthOf_0 rfl ?_
  refine go_statP dRows_lengthOf_1 ok_mRows_rowLength st_mRows_rowLength qm_Rows_9 (a_Rows_rowLength hP) ?_ (hnp := np_mRows_rowLength)
  refine go_aload_n dRows_lengthOf_4 rfl ?_
  refine go_getf dRows_lengthOf_5 qf_Rows_15 hP.1 rfl ?_
  refine go_imul dRows_lengthOf_8 ?_
  refine go_iret dRows_lengthOf_9 rfl rfl ?_ (Nat.le_of_ble_eq_true rfl) (Nat.le_of_ble_eq_true rfl)
  exact ret_e (by rw [pk_mul])
set_option maxHeartbeats 4000000 in
theorem a_Rows_isFilledWithNought {E : pmEv} {h : pmH} {z : Option Nat} {p : Nat} {t : Bool} {π : aPic} {x : Int32} (hP : PiA h p t π) : Call E mRows_isFilledWithNought [.int x, .ref p] h z 0 0 (Ret (some (.int (bI (fillOk π.1 x)))) (h, z, false)) := by
  refine call_of (L := [some (.int x), some (.ref p), none]) ok_mRows_isFilledWithNought (Nat.le_of_ble_eq_true rfl) ?_
  refine go_aload_n dRows_isFilledWithNought_0 rfl ?_
  refine go_statP dRows_isFilledWithNought_1 ok_mRows_rowBits st_mRows_rowBits qm_Rows_70 (a_Rows_rowBits hP) ?_ (hnp := np_mRows_rowBits)
  refine go_bipush (v := 7) dRows_isFilledWithNought_4 (by decide) ?_
  refine go_iand dRows_isFilledWithNought_6 ?_
  have hr := rbN_le hP.2.2.2.2.2
  rw [and7 (n := rbN π.1) (by omega)]
  refine go_istore_n dRows_isFilledWithNought_7 ?_
  refine go_iload_n dRows_isFilledWithNought_8 rfl ?_
  refine go_if_eq (tgt := 24) dRows_isFilledWithNought_9 (fun c1 => ?_) (fun c1 => ?_)
  · refine go_iconst (v := 1) dRows_isFilledWithNought_24 (by decide) ?_
    refine go_goto (tgt := 29) dRows_isFilledWithNought_25 ?_
    refine go_iret dRows_isFilledWithNought_29 rfl rfl ?_ (Nat.le_of_ble_eq_true rfl) (Nat.le_of_ble_eq_true rfl)
    exact ret_bt (Or.inl ((nI_inj (b := 0) (by omega) (by omega)).mp c1))
  · refine go_iload_n dRows_isFilledWithNought_12 rfl ?_
    refine go_bipush (v := 8) dRows_isFilledWithNought_13 (by decide) ?_
    refine go_iload_n dRows_isFilledWithNought_15 rfl ?_
    refine go_isub dRows_isFilledWithNought_16 ?_
    rw [show (8 : Int32) = nI 8 from rfl, pk_sub (by omega)]
    refine go_statP dRows_isFilledWithNought_17 ok_mShape_greatest st_mShape_greatest qm_Rows_59 c_Shape_greatest ?_ (hnp := np_mShape_greatest)
    refine go_iand dRows_isFilledWithNought_20 ?_
    refine go_if_ne (tgt := 28) dRows_isFilledWithNought_21 (fun c2 => ?_) (fun c2 => ?_)
    · refine go_iconst (v := 0) dRows_isFilledWithNought_28 (by decide) ?_
      refine go_iret dRows_isFilledWithNought_29 rfl rfl ?_ (Nat.le_of_ble_eq_true rfl) (Nat.le_of_ble_eq_true rfl)
      exact ret_bf (fun q => q.elim (fun q => c1 (by rw [q]; rfl)) c2)
    · refine go_iconst (v := 1) dRows_isFilledWithNought_24 (by decide) ?_
      refine go_goto (tgt := 29) dRows_isFilledWithNought_25 ?_
      refine go_iret dRows_isFilledWithNought_29 rfl rfl ?_ (Nat.le_of_ble_eq_true rfl) (Nat.le_of_ble_eq_true rfl)
      exact ret_bt (Or.inr c2)
set_option maxHeartbeats 4000000 in
theorem l_Rows_packRow_in {E : pmEv} {h0 : pmH} {z : Option Nat} {p r N : Nat} {t : Bool} {π : aPic} {y : Nat} (hd : p + 10 ≤ r ∨ r + 2 ≤ p) (hP : PiA h0 p t π) (hy : y < π.1.2.1) {w : aRow} {x : Nat} (hx : x < π.1.1) : ∀ (n : Nat) (u : Nat) (q : pkS) (h : pmH) (d : Bool), u + n = chN π.1.2.2.2 → BA h r N q.1 → Sm h0 h r 2 → (∀ hx dx, BA hx r N (pkIn π y x n u q).1 → Sm h0 hx r 2 → Go E (mRows_packRow, h0, 0, 0) 78 [some (.ref p), some (.int (nI y)), some (.ref r), some (.int (pkIn π y x n u q).2.1), some (.int (pkIn π y x n u q).2.2), some (.int (nI x)), some (.int (nI (chN π.1.2.2.2)))] [] (hx, z, dx) 0 0 (RetX none (fun h' => BA h' r N w ∧ Sm h0 h' r 2) z)) → Go E (mRows_packRow, h0, 0, 0) 20 [some (.ref p), some (.int (nI y)), some (.ref r), some (.int q.2.1), some (.int q.2.2), some (.int (nI x)), some (.int (nI u))] [] (h, z, d) 0 0 (RetX none (fun h' => BA h' r N w ∧ Sm h0 h' r 2) z) := by
  intro n
  induction n with
  | zero =>
    intro u q h d hu hB hs hk
    have hp := hP.sm hs (by omega)
    have hch := chN_le π.1.2.2.2
    have ho := hP.2.2.2.2.2
    have hwh := ho.w
    refine go_iload dRows_packRow_20 rfl ?_
    refine go_aload_n dRows_packRow_22 rfl ?_
    refine go_getf dRows_packRow_23 qf_Rows_49 hp.1 rfl ?_
    refine go_icmp_ge (tgt := 78) dRows_packRow_26 (fun c1 => ?_) (fun c1 => ?_)
    · obtain rfl : u = chN π.1.2.2.2 := by omega
      exact hk h d hB hs
    · exact absurd (nI_le (a := chN π.1.2.2.2) (b := u) (by omega) (by omega)) c1
  | succ n ih =>
    intro u q h d hu hB hs hk
    have hp := hP.sm hs (by omega)
    have hch := chN_le π.1.2.2.2
    have ho := hP.2.2.2.2.2
    have hwh := ho.w
    refine go_iload dRows_packRow_20 rfl ?_
    refine go_aload_n dRows_packRow_22 rfl ?_
    refine go_getf dRows_packRow_23 qf_Rows_49 hp.1 rfl ?_
    refine go_icmp_ge (tgt := 78) dRows_packRow_26 (fun c1 => ?_) (fun c1 => ?_)
    · exact absurd c1 (nI_ge (a := u) (b := chN π.1.2.2.2) (by omega) (by omega))
    · refine go_iload_n dRows_packRow_29 rfl ?_
      refine go_aload_n dRows_packRow_30 rfl ?_
      refine go_getf dRows_packRow_31 qf_Rows_52 hp.1 rfl ?_
      refine go_ishl dRows_packRow_34 ?_
      refine go_aload_n dRows_packRow_35 rfl ?_
      refine go_iload dRows_packRow_36 rfl ?_
      refine go_iload_n dRows_packRow_38 rfl ?_
      refine go_iload dRows_packRow_39 rfl ?_
      refine go_virtP dRows_packRow_41 ok_mPicture_sample im_mPicture_sample se_mPicture_sample qm_Rows_55 hp.1 (a_Picture_sample (u := u) hx hy (by omega) hp) ?_ (hnp := np_mPicture_sample)
      refine go_ior dRows_packRow_44 ?_
      refine go_istore_n dRows_packRow_45 ?_
      refine go_iload dRows_packRow_46 rfl ?_
      refine go_aload_n dRows_packRow_48 rfl ?_
      refine go_getf dRows_packRow_49 qf_Rows_52 hp.1 rfl ?_
      refine go_iadd dRows_packRow_52 ?_
      refine go_istore dRows_packRow_53 ?_
      refine go_iload dRows_packRow_55 rfl ?_
      refine go_bipush (v := 8) dRows_packRow_57 (by decide) ?_
      refine go_icmp_ne (tgt := 72) dRows_packRow_59 (fun c2 => ?_) (fun c2 => ?_)
      · refine go_iinc dRows_packRow_72 rfl (congrArg (_ + ·) lit1) ?_
        refine go_goto (tgt := 20) dRows_packRow_75 ?_
        exact go_at (ih (u + 1) (pkStep π.1.2.2.1 (π.2.1 ((y * 12 + x) * 4 + u)) q) h d (by omega) (by rw [pkStep, if_neg c2]; exact hB) hs hk) rfl (by rw [pkStep, if_neg c2, nI_succ]; rfl) rfl rfl
      · refine go_aload_n dRows_packRow_62 rfl ?_
        refine go_iload_n dRows_packRow_63 rfl ?_
        refine go_virtX dRows_packRow_64 ok_mBytes_add im_mBytes_add se_mBytes_add qm_Rows_26 hB.1 (a_Bytes_add hB) (fun hx3 d3 q3 => ?_) (hnp := np_mBytes_add)
        refine go_iconst (v := 0) dRows_packRow_67 (by decide) ?_
        refine go_istore_n dRows_packRow_68 ?_
        refine go_iconst (v := 0) dRows_packRow_69 (by decide) ?_
        refine go_istore dRows_packRow_70 ?_
        refine go_iinc dRows_packRow_72 rfl (congrArg (_ + ·) lit1) ?_
        refine go_goto (tgt := 20) dRows_packRow_75 ?_
        exact go_at (ih (u + 1) (pkStep π.1.2.2.1 (π.2.1 ((y * 12 + x) * 4 + u)) q) hx3 d3 (by omega) (by rw [pkStep, if_pos c2]; exact q3.1) (hs.trans q3.2) hk) rfl (by rw [pkStep, if_pos c2, nI_succ]; rfl) rfl rfl
set_option maxHeartbeats 4000000 in
theorem l_Rows_packRow {E : pmEv} {h0 : pmH} {z : Option Nat} {p r N : Nat} {t : Bool} {π : aPic} {y : Nat} (hd : p + 10 ≤ r ∨ r + 2 ≤ p) (hP : PiA h0 p t π) (hy : y < π.1.2.1) {w : aRow} : ∀ (n : Nat) (x : Nat) (q : pkS) (j : Int32) (h : pmH) (d : Bool), x + n = π.1.1 → BA h r N q.1 → Sm h0 h r 2 → w = pkEnd (pkOut π y n x q) → Go E (mRows_packRow, h0, 0, 0) 8 [some (.ref p), some (.int (nI y)), some (.ref r), some (.int q.2.1), some (.int q.2.2), some (.int (nI x)), some (.int j)] [] (h, z, d) 0 0 (RetX none (fun h' => BA h' r N w ∧ Sm h0 h' r 2) z) := by
  intro n
  induction n with
  | zero =>
    intro x q j h d hx hB hs hw
    have hp := hP.sm hs (by omega)
    have hch := chN_le π.1.2.2.2
    have ho := hP.2.2.2.2.2
    have hwh := ho.w
    refine go_iload dRows_packRow_8 rfl ?_
    refine go_aload_n dRows_packRow_10 rfl ?_
    refine go_getf dRows_packRow_11 qf_Rows_46 hp.1 rfl ?_
    refine go_icmp_ge (tgt := 84) dRows_packRow_14 (fun c1 => ?_) (fun c1 => ?_)
    · refine go_iload dRows_packRow_84 rfl ?_
      refine go_if_le (tgt := 100) dRows_packRow_86 (fun c2 => ?_) (fun c2 => ?_)
      · refine go_vret dRows_packRow_100 rfl ?_ (Nat.le_of_ble_eq_true rfl) (Nat.le_of_ble_eq_true rfl)
        exact retX ⟨by rw [hw, pkOut, pkEnd, if_neg (Int32.not_lt.mpr c2)]; exact hB, hs⟩
      · refine go_aload_n dRows_packRow_89 rfl ?_
        refine go_iload_n dRows_packRow_90 rfl ?_
        refine go_bipush (v := 8) dRows_packRow_91 (by decide) ?_
        refine go_iload dRows_packRow_93 rfl ?_
        refine go_isub dRows_packRow_95 ?_
        refine go_ishl dRows_packRow_96 ?_
        refine go_virtX dRows_packRow_97 ok_mBytes_add im_mBytes_add se_mBytes_add qm_Rows_26 hB.1 (a_Bytes_add hB) (fun hx3 d3 q3 => ?_) (hnp := np_mBytes_add)
        refine go_vret dRows_packRow_100 rfl ?_ (Nat.le_of_ble_eq_true rfl) (Nat.le_of_ble_eq_true rfl)
        exact retX ⟨by rw [hw, pkOut, pkEnd, if_pos (Int32.not_le.mp c2)]; exact q3.1, hs.trans q3.2⟩
    · exact absurd (nI_le (a := π.1.1) (b := x) (by omega) (by omega)) c1
  | succ n ih =>
    intro x q j h d hx hB hs hw
    have hp := hP.sm hs (by omega)
    have hch := chN_le π.1.2.2.2
    have ho := hP.2.2.2.2.2
    have hwh := ho.w
    refine go_iload dRows_packRow_8 rfl ?_
    refine go_aload_n dRows_packRow_10 rfl ?_
    refine go_getf dRows_packRow_11 qf_Rows_46 hp.1 rfl ?_
    refine go_icmp_ge (tgt := 84) dRows_packRow_14 (fun c1 => ?_) (fun c1 => ?_)
    · exact absurd c1 (nI_ge (a := x) (b := π.1.1) (by omega) (by omega))
    · refine go_iconst (v := 0) dRows_packRow_17 (by decide) ?_
      refine go_istore dRows_packRow_18 ?_
      refine l_Rows_packRow_in (w := w) hd hP hy (x := x) (by omega) (chN π.1.2.2.2) 0 q h d (by omega) hB hs (fun hx2 dx2 hB2 hs2 => ?_)
      refine go_iinc dRows_packRow_78 rfl (congrArg (_ + ·) lit1) ?_
      refine go_goto (tgt := 8) dRows_packRow_81 ?_
      exact go_at (ih (x + 1) _ _ hx2 dx2 (by omega) hB2 hs2 hw) rfl (by rw [nI_succ]; rfl) rfl rfl
set_option maxHeartbeats 4000000 in
theorem l_Rows_packRow0 {E : pmEv} {h0 : pmH} {z : Option Nat} {p r N : Nat} {t : Bool} {π : aPic} {y : Nat} (hd : p + 10 ≤ r ∨ r + 2 ≤ p) (hP : PiA h0 p t π) (hy : y < π.1.2.1) {w : aRow} {q : pkS} {h : pmH} {d : Bool} (hx : 0 + π.1.1 = π.1.1) (hB : BA h r N q.1) (hs : Sm h0 h r 2) (hw : w = pkEnd (pkOut π y π.1.1 0 q)) : Go E (mRows_packRow, h0, 0, 0) 8 [some (.ref p), some (.int (nI y)), some (.ref r), some (.int q.2.1), some (.int q.2.2), some (.int (nI 0)), none] [] (h, z, d) 0 0 (RetX none (fun h' => BA h' r N w ∧ Sm h0 h' r 2) z) := by
  have hp := hP.sm hs (by omega)
  have hch := chN_le π.1.2.2.2
  have ho := hP.2.2.2.2.2
  have hwh := ho.w
  have h1 := ho.1.1
  obtain ⟨n, hn⟩ : ∃ n, π.1.1 = n + 1 := ⟨π.1.1 - 1, by omega⟩
  refine go_iload dRows_packRow_8 rfl ?_
  refine go_aload_n dRows_packRow_10 rfl ?_
  refine go_getf dRows_packRow_11 qf_Rows_46 hp.1 rfl ?_
  refine go_icmp_ge (tgt := 84) dRows_packRow_14 (fun c1 => ?_) (fun c1 => ?_)
  · exact absurd c1 (nI_ge (a := 0) (b := π.1.1) (by omega) (by omega))
  · refine go_iconst (v := 0) dRows_packRow_17 (by decide) ?_
    refine go_istore dRows_packRow_18 ?_
    refine l_Rows_packRow_in (w := w) hd hP hy (x := 0) (by omega) (chN π.1.2.2.2) 0 q h d (by omega) hB hs (fun hx2 dx2 hB2 hs2 => ?_)
    refine go_iinc dRows_packRow_78 rfl (congrArg (_ + ·) lit1) ?_
    refine go_goto (tgt := 8) dRows_packRow_81 ?_
    rw [hn] at hw
    exact go_at (l_Rows_packRow (w := w) hd hP hy n 1 _ _ hx2 dx2 (by omega) hB2 hs2 hw) rfl rfl rfl rfl
set_option maxHeartbeats 4000000 in
theorem a_Rows_packRow {E : pmEv} {h : pmH} {z : Option Nat} {p r N : Nat} {t : Bool} {π : aPic} {y : Nat} {q : aRow} (hd : p + 10 ≤ r ∨ r + 2 ≤ p) (hP : PiA h p t π) (hy : y < π.1.2.1) (hB : BA h r N q) : Call E mRows_packRow [.ref p, .int (nI y), .ref r] h z 0 0 (RetX none (fun h' => BA h' r N (pkEnd (pkOut π y π.1.1 0 (q, 0, 0))) ∧ Sm h h' r 2) z) := by
  refine call_of (L := [some (.ref p), some (.int (nI y)), some (.ref r), none, none, none, none]) ok_mRows_packRow (Nat.le_of_ble_eq_true rfl) ?_
  refine go_iconst (v := 0) dRows_packRow_0 (by decide) ?_
  refine go_istore_n dRows_packRow_1 ?_
  refine go_iconst (v := 0) dRows_packRow_2 (by decide) ?_
  refine go_istore dRows_packRow_3 ?_
  refine go_iconst (v := 0) dRows_packRow_5 (by decide) ?_
  refine go_istore dRows_packRow_6 ?_
  exact l_Rows_packRow0 (q := (q, 0, 0)) hd hP hy (by omega) hB (Sm.refl _ _ _) rfl
set_option maxHeartbeats 4000000 in
theorem l_Rows_pack {E : pmEv} {h0 : pmH} {z : Option Nat} {p r N : Nat} {t : Bool} {π : aPic} (hd : p + 10 ≤ r ∨ r + 2 ≤ p) (hP : PiA h0 p t π) {w : aRow} : ∀ (n : Nat) (y : Nat) (q : aRow) (h : pmH) (d : Bool), y + n = π.1.2.1 → BA h r N q → Sm h0 h r 2 → w = pkAll π n y q → Go E (mRows_pack, h0, 0, 0) 6 [some (.ref p), some (.ref r), some (.int (nI y))] [] (h, z, d) 0 0 (RetX none (fun h' => BA h' r N w ∧ Sm h0 h' r 2) z) := by
  intro n
  induction n with
  | zero =>
    intro y q h d hy hB hs hw
    have hp := hP.sm hs (by omega)
    have hch := chN_le π.1.2.2.2
    have ho := hP.2.2.2.2.2
    have hwh := ho.w
    refine go_iload_n dRows_pack_6 rfl ?_
    refine go_aload_n dRows_pack_7 rfl ?_
    refine go_getf dRows_pack_8 qf_Rows_15 hp.1 rfl ?_
    refine go_icmp_ge (tgt := 31) dRows_pack_11 (fun c1 => ?_) (fun c1 => ?_)
    · refine go_vret dRows_pack_31 rfl ?_ (Nat.le_of_ble_eq_true rfl) (Nat.le_of_ble_eq_true rfl)
      exact retX ⟨by rw [hw, pkAll]; exact hB, hs⟩
    · exact absurd (nI_le (a := π.1.2.1) (b := y) (by omega) (by omega)) c1
  | succ n ih =>
    intro y q h d hy hB hs hw
    have hp := hP.sm hs (by omega)
    have hch := chN_le π.1.2.2.2
    have ho := hP.2.2.2.2.2
    have hwh := ho.w
    refine go_iload_n dRows_pack_6 rfl ?_
    refine go_aload_n dRows_pack_7 rfl ?_
    refine go_getf dRows_pack_8 qf_Rows_15 hp.1 rfl ?_
    refine go_icmp_ge (tgt := 31) dRows_pack_11 (fun c1 => ?_) (fun c1 => ?_)
    · exact absurd c1 (nI_ge (a := y) (b := π.1.2.1) (by omega) (by omega))
    · refine go_aload_n dRows_pack_14 rfl ?_
      refine go_iconst (v := 0) dRows_pack_15 (by decide) ?_
      refine go_virtX dRows_pack_16 ok_mBytes_add im_mBytes_add se_mBytes_add qm_Rows_26 hB.1 (a_Bytes_add hB) (fun hx2 d2 q2 => ?_) (hnp := np_mBytes_add)
      refine go_aload_n dRows_pack_19 rfl ?_
      refine go_iload_n dRows_pack_20 rfl ?_
      refine go_aload_n dRows_pack_21 rfl ?_
      refine go_statX dRows_pack_22 ok_mRows_packRow st_mRows_packRow qm_Rows_30 (a_Rows_packRow (y := y) hd (hP.sm (hs.trans q2.2) (by omega)) (by omega) q2.1) (fun hx3 d3 q3 => ?_) (hnp := np_mRows_packRow)
      refine go_iinc dRows_pack_25 rfl (congrArg (_ + ·) lit1) ?_
      refine go_goto (tgt := 6) dRows_pack_28 ?_
      exact go_at (ih (y + 1) _ hx3 d3 (by omega) q3.1 ((hs.trans q2.2).trans q3.2) hw) rfl (by rw [nI_succ]; rfl) rfl rfl
set_option maxHeartbeats 4000000 in
theorem a_Rows_pack {E : pmEv} {h : pmH} {z : Option Nat} {p r N : Nat} {t : Bool} {π : aPic} {q : aRow} (hd : p + 10 ≤ r ∨ r + 2 ≤ p) (hP : PiA h p t π) (hB : BA h r N q) : Call E mRows_pack [.ref p, .ref r] h z 0 0 (RetX none (fun h' => BA h' r N (pkAll π π.1.2.1 0 (q.1, 0)) ∧ Sm h h' r 2) z) := by
  refine call_of (L := [some (.ref p), some (.ref r), none]) ok_mRows_pack (Nat.le_of_ble_eq_true rfl) ?_
  refine go_aload_n dRows_pack_0 rfl ?_
  refine go_virtX dRows_pack_1 ok_mBytes_clear im_mBytes_clear se_mBytes_clear qm_Rows_21 hB.1 (a_Bytes_clear hB) (fun hx1 d1 q1 => ?_) (hnp := np_mBytes_clear)
  refine go_iconst (v := 0) dRows_pack_4 (by decide) ?_
  refine go_istore_n dRows_pack_5 ?_
  exact l_Rows_pack hd hP π.1.2.1 0 _ hx1 d1 (by omega) q1.1 q1.2 rfl
set_option maxHeartbeats 4000000 in
theorem l_Rows_unpackRow_in {E : pmEv} {h0 : pmH} {z : Option Nat} {p r N : Nat} {t : Bool} {π : aPic} {ρ : aRow} {y : Nat} {s0 : Nat → Int32} (hd : p + 10 ≤ r ∨ r + 2 ≤ p) (hB0 : BA h0 r N ρ) (hN : ρ.2 ≤ N) (ho : okN π.1) (hy : y < π.1.2.1) {x : Nat} (hx : x < π.1.1) : ∀ (n : Nat) (u : Nat) (s : Nat → Int32) (h : pmH) (d : Bool), u + n = chN π.1.2.2.2 → PiA h p t (π.1, s, π.2.2) → Sm h0 h p 10 → UpI π ρ y s0 s x u → (∀ hx dx s', PiA hx p t (π.1, s', π.2.2) → Sm h0 hx p 10 → UpI π ρ y s0 s' (x + 1) 0 → Go E (mRows_unpackRow, h0, 0, 0) 102 [some (.ref r), some (.int (nI (y * rlN π.1 + 1))), some (.ref p), some (.int (nI y)), some (.int (nI ((x * chN π.1.2.2.2 + chN π.1.2.2.2) * π.1.2.2.1))), some (.int (nI (x))), some (.int (nI (chN π.1.2.2.2))), none, none] [] (hx, z, dx) 0 0 (RetX (some (.int (bI (upRow π ρ y)))) (fun h' => (∃ s, PiA h' p t (π.1, s, π.2.2) ∧ (∀ j, j < y * 48 → s j = s0 j) ∧ (upRow π ρ y → ∀ x, x < π.1.1 → ∀ u, u < chN π.1.2.2.2 → s ((y * 12 + x) * 4 + u) = upV π ρ y x u)) ∧ Sm h0 h' p 10) z)) → Go E (mRows_unpackRow, h0, 0, 0) 18 [some (.ref r), some (.int (nI (y * rlN π.1 + 1))), some (.ref p), some (.int (nI y)), some (.int (nI ((x * chN π.1.2.2.2 + u) * π.1.2.2.1))), some (.int (nI (x))), some (.int (nI (u))), none, none] [] (h, z, d) 0 0 (RetX (some (.int (bI (upRow π ρ y)))) (fun h' => (∃ s, PiA h' p t (π.1, s, π.2.2) ∧ (∀ j, j < y * 48 → s j = s0 j) ∧ (upRow π ρ y → ∀ x, x < π.1.1 → ∀ u, u < chN π.1.2.2.2 → s ((y * 12 + x) * 4 + u) = upV π ρ y x u)) ∧ Sm h0 h' p 10) z) := by
  intro n
  induction n with
  | zero =>
    intro u s h d hu hp hs hI hk
    have hB := hB0.sm hs (by omega)
    have hch := chN_le π.1.2.2.2
    have hwh := ho.w
    refine go_iload dRows_unpackRow_18 rfl ?_
    refine go_aload_n dRows_unpackRow_20 rfl ?_
    refine go_getf dRows_unpackRow_21 qf_Rows_49 hp.1 rfl ?_
    refine go_icmp_ge (tgt := 102) dRows_unpackRow_24 (fun c1 => ?_) (fun c1 => ?_)
    · obtain rfl : u = chN π.1.2.2.2 := by omega
      exact hk h d s hp hs hI.row
    · exact absurd (nI_le (a := chN π.1.2.2.2) (b := u) (by omega) (by omega)) c1
  | succ n ih =>
    intro u s h d hu hp hs hI hk
    have hB := hB0.sm hs (by omega)
    have hch := chN_le π.1.2.2.2
    have hwh := ho.w
    refine go_iload dRows_unpackRow_18 rfl ?_
    refine go_aload_n dRows_unpackRow_20 rfl ?_
    refine go_getf dRows_unpackRow_21 qf_Rows_49 hp.1 rfl ?_
    refine go_icmp_ge (tgt := 102) dRows_unpackRow_24 (fun c1 => ?_) (fun c1 => ?_)
    · exact absurd c1 (nI_ge (a := u) (b := chN π.1.2.2.2) (by omega) (by omega))
    · refine go_bipush (v := 8) dRows_unpackRow_27 (by decide) ?_
      refine go_aload_n dRows_unpackRow_29 rfl ?_
      refine go_getf dRows_unpackRow_30 qf_Rows_52 hp.1 rfl ?_
      refine go_isub dRows_unpackRow_33 ?_
      refine go_iload dRows_unpackRow_34 rfl ?_
      refine go_bipush (v := 7) dRows_unpackRow_36 (by decide) ?_
      refine go_iand dRows_unpackRow_38 ?_
      refine go_isub dRows_unpackRow_39 ?_
      refine go_istore dRows_unpackRow_40 ?_
      refine go_aload_n dRows_unpackRow_42 rfl ?_
      refine go_iload_n dRows_unpackRow_43 rfl ?_
      refine go_iload dRows_unpackRow_44 rfl ?_
      refine go_iconst (v := 3) dRows_unpackRow_46 (by decide) ?_
      refine go_ishr dRows_unpackRow_47 ?_
      refine go_iadd dRows_unpackRow_48 ?_
      refine go_virtP dRows_unpackRow_49 ok_mBytes_value im_mBytes_value se_mBytes_value qm_Rows_34 hB.1 (a_Bytes_value hB hN) ?_ (hnp := np_mBytes_value)
      refine go_iload dRows_unpackRow_52 rfl ?_
      refine go_iushr dRows_unpackRow_54 ?_
      refine go_aload_n dRows_unpackRow_55 rfl ?_
      refine go_getf dRows_unpackRow_56 qf_Rows_52 hp.1 rfl ?_
      refine go_statP dRows_unpackRow_59 ok_mShape_greatest st_mShape_greatest qm_Rows_59 c_Shape_greatest ?_ (hnp := np_mShape_greatest)
      refine go_iand dRows_unpackRow_62 ?_
      refine go_istore dRows_unpackRow_63 ?_
      refine go_aload_n dRows_unpackRow_65 rfl ?_
      refine go_iload dRows_unpackRow_66 rfl ?_
      refine go_virtP dRows_unpackRow_68 ok_mPicture_sampleMayBe im_mPicture_sampleMayBe se_mPicture_sampleMayBe qm_Rows_62 hp.1 (a_Picture_sampleMayBe hp) ?_ (hnp := np_mPicture_sampleMayBe)
      refine go_ifne_b (tgt := 76) dRows_unpackRow_71 (fun c2 => ?_) (fun c2 => ?_)
      · refine go_aload_n dRows_unpackRow_76 rfl ?_
        refine go_iload dRows_unpackRow_77 rfl ?_
        refine go_iload_n dRows_unpackRow_79 rfl ?_
        refine go_iload dRows_unpackRow_80 rfl ?_
        refine go_iload dRows_unpackRow_82 rfl ?_
        refine go_virtX dRows_unpackRow_84 ok_mPicture_setSample im_mPicture_setSample se_mPicture_setSample qm_Rows_66 hp.1 (a_Picture_setSample (π := (π.1, s, π.2.2)) (x := x) (y := y) (u := u) hx hy (show u < chN π.1.2.2.2 by omega) hp) (fun hx3 d3 q3 => ?_) (hnp := np_mPicture_setSample)
        refine go_iload dRows_unpackRow_87 rfl ?_
        refine go_aload_n dRows_unpackRow_89 rfl ?_
        refine go_getf dRows_unpackRow_90 qf_Rows_52 q3.1.1 rfl ?_
        refine go_iadd dRows_unpackRow_93 ?_
        refine go_istore dRows_unpackRow_94 ?_
        refine go_iinc dRows_unpackRow_96 rfl (congrArg (_ + ·) lit1) ?_
        refine go_goto (tgt := 18) dRows_unpackRow_99 ?_
        refine go_fg 7 (go_fg 8 ?_)
        exact go_at (ih (u + 1) _ hx3 d3 (by omega) q3.1 (hs.trans q3.2) (hI.step (by omega) c2) hk) rfl (by rw [nI_succ u, up_bit]; rfl) rfl rfl
      · refine go_iconst (v := 0) dRows_unpackRow_74 (by decide) ?_
        refine go_iret dRows_unpackRow_75 rfl rfl ?_ (Nat.le_of_ble_eq_true rfl) (Nat.le_of_ble_eq_true rfl)
        exact retX_e (by rw [bI_f (fun q => c2 (q x hx u (by omega)))]) ⟨⟨s, hp, hI.1, fun q => absurd (q x hx u (by omega)) c2⟩, hs⟩
set_option maxHeartbeats 4000000 in
theorem l_Rows_unpackRow {E : pmEv} {h0 : pmH} {z : Option Nat} {p r N : Nat} {t : Bool} {π : aPic} {ρ : aRow} {y : Nat} {s0 : Nat → Int32} (hd : p + 10 ≤ r ∨ r + 2 ≤ p) (hB0 : BA h0 r N ρ) (hN : ρ.2 ≤ N) (ho : okN π.1) (hy : y < π.1.2.1) : ∀ (n : Nat) (x : Nat) (s : Nat → Int32) (h : pmH) (d : Bool), x + n = π.1.1 → PiA h p t (π.1, s, π.2.2) → Sm h0 h p 10 → UpI π ρ y s0 s x 0 → Go E (mRows_unpackRow, h0, 0, 0) 6 [some (.ref r), some (.int (nI (y * rlN π.1 + 1))), some (.ref p), some (.int (nI y)), some (.int (nI ((x * chN π.1.2.2.2 + 0) * π.1.2.2.1))), some (.int (nI (x))), none, none, none] [] (h, z, d) 0 0 (RetX (some (.int (bI (upRow π ρ y)))) (fun h' => (∃ s, PiA h' p t (π.1, s, π.2.2) ∧ (∀ j, j < y * 48 → s j = s0 j) ∧ (upRow π ρ y → ∀ x, x < π.1.1 → ∀ u, u < chN π.1.2.2.2 → s ((y * 12 + x) * 4 + u) = upV π ρ y x u)) ∧ Sm h0 h' p 10) z) := by
  intro n
  induction n with
  | zero =>
    intro x s h d hx hp hs hI
    have hB := hB0.sm hs (by omega)
    have hch := chN_le π.1.2.2.2
    have hwh := ho.w
    refine go_iload dRows_unpackRow_6 rfl ?_
    refine go_aload_n dRows_unpackRow_8 rfl ?_
    refine go_getf dRows_unpackRow_9 qf_Rows_46 hp.1 rfl ?_
    refine go_icmp_ge (tgt := 108) dRows_unpackRow_12 (fun c1 => ?_) (fun c1 => ?_)
    · refine go_iconst (v := 1) dRows_unpackRow_108 (by decide) ?_
      refine go_iret dRows_unpackRow_109 rfl rfl ?_ (Nat.le_of_ble_eq_true rfl) (Nat.le_of_ble_eq_true rfl)
      obtain rfl : x = π.1.1 := by omega
      exact retX_e (by rw [bI_t hI.all]) ⟨⟨s, hp, hI.1, fun _ => hI.val⟩, hs⟩
    · exact absurd (nI_le (a := π.1.1) (b := x) (by omega) (by omega)) c1
  | succ n ih =>
    intro x s h d hx hp hs hI
    have hB := hB0.sm hs (by omega)
    have hch := chN_le π.1.2.2.2
    have hwh := ho.w
    refine go_iload dRows_unpackRow_6 rfl ?_
    refine go_aload_n dRows_unpackRow_8 rfl ?_
    refine go_getf dRows_unpackRow_9 qf_Rows_46 hp.1 rfl ?_
    refine go_icmp_ge (tgt := 108) dRows_unpackRow_12 (fun c1 => ?_) (fun c1 => ?_)
    · exact absurd c1 (nI_ge (a := x) (b := π.1.1) (by omega) (by omega))
    · refine go_iconst (v := 0) dRows_unpackRow_15 (by decide) ?_
      refine go_istore dRows_unpackRow_16 ?_
      refine l_Rows_unpackRow_in (s0 := s0) hd hB0 hN ho hy (x := x) (by omega) (chN π.1.2.2.2) 0 s h d (by omega) hp hs hI (fun hx2 dx2 s2 hp2 hs2 hI2 => ?_)
      refine go_iinc dRows_unpackRow_102 rfl (congrArg (_ + ·) lit1) ?_
      refine go_goto (tgt := 6) dRows_unpackRow_105 ?_
      refine go_fg 6 ?_
      exact go_at (ih (x + 1) s2 hx2 dx2 (by omega) hp2 hs2 hI2) rfl (by rw [nI_succ x, up_row]; rfl) rfl rfl
set_option maxHeartbeats 4000000 in
theorem a_Rows_unpackRow {E : pmEv} {h : pmH} {z : Option Nat} {p r N : Nat} {t : Bool} {π : aPic} {ρ : aRow} {y : Nat} {s : Nat → Int32} (hd : p + 10 ≤ r ∨ r + 2 ≤ p) (hB : BA h r N ρ) (hN : ρ.2 ≤ N) (hy : y < π.1.2.1) (hP : PiA h p t (π.1, s, π.2.2)) : Call E mRows_unpackRow [.ref r, .int (nI (y * rlN π.1 + 1)), .ref p, .int (nI y)] h z 0 0 (RetX (some (.int (bI (upRow π ρ y)))) (fun h' => (∃ s', PiA h' p t (π.1, s', π.2.2) ∧ (∀ j, j < y * 48 → s' j = s j) ∧ (upRow π ρ y → ∀ x, x < π.1.1 → ∀ u, u < chN π.1.2.2.2 → s' ((y * 12 + x) * 4 + u) = upV π ρ y x u)) ∧ Sm h h' p 10) z) := by
  refine call_of (L := [some (.ref r), some (.int (nI (y * rlN π.1 + 1))), some (.ref p), some (.int (nI y)), none, none, none, none, none]) ok_mRows_unpackRow (Nat.le_of_ble_eq_true rfl) ?_
  refine go_iconst (v := 0) dRows_unpackRow_0 (by decide) ?_
  refine go_istore dRows_unpackRow_1 ?_
  refine go_iconst (v := 0) dRows_unpackRow_3 (by decide) ?_
  refine go_istore dRows_unpackRow_4 ?_
  exact go_at (l_Rows_unpackRow (π := π) (s0 := s) hd hB hN hP.2.2.2.2.2 hy π.1.1 0 s h false (by omega) hP (Sm.refl _ _ _) UpI.zero) rfl (by rw [up_zero]; rfl) rfl rfl
set_option maxHeartbeats 4000000 in
theorem l_Rows_unpack {E : pmEv} {h0 : pmH} {z : Option Nat} {p r N : Nat} {t : Bool} {π : aPic} {ρ : aRow} (hd : p + 10 ≤ r ∨ r + 2 ≤ p) (hB0 : BA h0 r N ρ) (hN : ρ.2 ≤ N) (ho : okN π.1) : ∀ (n : Nat) (y : Nat) (s : Nat → Int32) (h : pmH) (d : Bool), y + n = π.1.2.1 → PiA h p t (π.1, s, π.2.2) → Sm h0 h p 10 → (∀ y', y' < y → upAt π ρ y' ∧ ∀ x, x < π.1.1 → ∀ u, u < chN π.1.2.2.2 → s ((y' * 12 + x) * 4 + u) = upV π ρ y' x u) → Go E (mRows_unpack, h0, 0, 0) 7 [some (.ref r), some (.ref p), some (.int (nI (rlN π.1))), some (.int (nI y)), none] [] (h, z, d) 0 0 (RetX (some (.int (bI (upOk π ρ)))) (fun h' => (∃ s, PiA h' p t (π.1, s, π.2.2) ∧ (upOk π ρ → ∀ y, y < π.1.2.1 → ∀ x, x < π.1.1 → ∀ u, u < chN π.1.2.2.2 → s ((y * 12 + x) * 4 + u) = upV π ρ y x u)) ∧ Sm h0 h' p 10) z) := by
  intro n
  induction n with
  | zero =>
    intro y s h d hy hp hs hI
    have hB := hB0.sm hs (by omega)
    have hch := chN_le π.1.2.2.2
    have hwh := ho.w
    refine go_iload_n dRows_unpack_7 rfl ?_
    refine go_aload_n dRows_unpack_8 rfl ?_
    refine go_getf dRows_unpack_9 qf_Rows_15 hp.1 rfl ?_
    refine go_icmp_ge (tgt := 67) dRows_unpack_12 (fun c1 => ?_) (fun c1 => ?_)
    · refine go_iconst (v := 1) dRows_unpack_67 (by decide) ?_
      refine go_iret dRows_unpack_68 rfl rfl ?_ (Nat.le_of_ble_eq_true rfl) (Nat.le_of_ble_eq_true rfl)
      obtain rfl : y = π.1.2.1 := by omega
      exact retX_e (by rw [bI_t (fun y hy => (hI y hy).1)]) ⟨⟨s, hp, fun _ y hy => (hI y hy).2⟩, hs⟩
    · exact absurd (nI_le (a := π.1.2.1) (b := y) (by omega) (by omega)) c1
  | succ n ih =>
    intro y s h d hy hp hs hI
    have hB := hB0.sm hs (by omega)
    have hch := chN_le π.1.2.2.2
    have hwh := ho.w
    refine go_iload_n dRows_unpack_7 rfl ?_
    refine go_aload_n dRows_unpack_8 rfl ?_
    refine go_getf dRows_unpack_9 qf_Rows_15 hp.1 rfl ?_
    refine go_icmp_ge (tgt := 67) dRows_unpack_12 (fun c1 => ?_) (fun c1 => ?_)
    · exact absurd c1 (nI_ge (a := y) (b := π.1.2.1) (by omega) (by omega))
    · refine go_iload_n dRows_unpack_15 rfl ?_
      refine go_iload_n dRows_unpack_16 rfl ?_
      refine go_imul dRows_unpack_17 ?_
      rw [pk_mul]
      refine go_istore dRows_unpack_18 ?_
      refine go_aload_n dRows_unpack_20 rfl ?_
      refine go_iload dRows_unpack_21 rfl ?_
      refine go_virtP dRows_unpack_23 ok_mBytes_value im_mBytes_value se_mBytes_value qm_Rows_34 hB.1 (a_Bytes_value hB hN) ?_ (hnp := np_mBytes_value)
      refine go_if_ne (tgt := 59) dRows_unpack_26 (fun c2 => ?_) (fun c2 => ?_)
      · refine go_iconst (v := 0) dRows_unpack_59 (by decide) ?_
        refine go_iret dRows_unpack_60 rfl rfl ?_ (Nat.le_of_ble_eq_true rfl) (Nat.le_of_ble_eq_true rfl)
        exact retX_e (by rw [bI_f (fun q => c2 (q y (by omega)).1)]) ⟨⟨s, hp, fun q => absurd (q y (by omega)).1 c2⟩, hs⟩
      · refine go_aload_n dRows_unpack_29 rfl ?_
        refine go_iload dRows_unpack_30 rfl ?_
        refine go_iload_n dRows_unpack_32 rfl ?_
        refine go_iadd dRows_unpack_33 ?_
        refine go_iconst (v := 1) dRows_unpack_34 (by decide) ?_
        refine go_isub dRows_unpack_35 ?_
        refine go_virtP dRows_unpack_36 ok_mBytes_value im_mBytes_value se_mBytes_value qm_Rows_34 hB.1 (a_Bytes_value hB hN) ?_ (hnp := np_mBytes_value)
        refine go_aload_n dRows_unpack_39 rfl ?_
        refine go_statP dRows_unpack_40 ok_mRows_isFilledWithNought st_mRows_isFilledWithNought qm_Rows_38 (a_Rows_isFilledWithNought hp) ?_ (hnp := np_mRows_isFilledWithNought)
        refine go_ifeq_b (tgt := 59) dRows_unpack_43 (fun c3 => ?_) (fun c3 => ?_)
        · refine go_iconst (v := 0) dRows_unpack_59 (by decide) ?_
          refine go_iret dRows_unpack_60 rfl rfl ?_ (Nat.le_of_ble_eq_true rfl) (Nat.le_of_ble_eq_true rfl)
          exact retX_e (by rw [bI_f (fun q => c3 (q y (by omega)).2.1)]) ⟨⟨s, hp, fun q => absurd (q y (by omega)).2.1 c3⟩, hs⟩
        · refine go_aload_n dRows_unpack_46 rfl ?_
          refine go_iload dRows_unpack_47 rfl ?_
          refine go_iconst (v := 1) dRows_unpack_49 (by decide) ?_
          refine go_iadd dRows_unpack_50 ?_
          rw [nI_a1 (y * rlN π.1)]
          refine go_aload_n dRows_unpack_51 rfl ?_
          refine go_iload_n dRows_unpack_52 rfl ?_
          refine go_statX dRows_unpack_53 ok_mRows_unpackRow st_mRows_unpackRow qm_Rows_42 (a_Rows_unpackRow (π := π) (y := y) hd hB hN (by omega) hp) (fun hx4 d4 q4 => ?_) (hnp := np_mRows_unpackRow)
          refine go_ifne_b (tgt := 61) dRows_unpack_56 (fun c5 => ?_) (fun c5 => ?_)
          · refine go_iinc dRows_unpack_61 rfl (congrArg (_ + ·) lit1) ?_
            refine go_goto (tgt := 7) dRows_unpack_64 ?_
            obtain ⟨⟨s2, a1, a2, a3⟩, a4⟩ := q4
            refine go_fg 4 ?_
            exact go_at (ih (y + 1) s2 hx4 d4 (by omega) a1 (hs.trans a4) (upAll hwh hch hI ⟨c2, c3, c5⟩ a2 (a3 c5))) rfl (by rw [nI_succ y]; rfl) rfl rfl
          · refine go_iconst (v := 0) dRows_unpack_59 (by decide) ?_
            refine go_iret dRows_unpack_60 rfl rfl ?_ (Nat.le_of_ble_eq_true rfl) (Nat.le_of_ble_eq_true rfl)
            obtain ⟨⟨s2, a1, a2, a3⟩, a4⟩ := q4
            exact retX_e (by rw [bI_f (fun q => c5 (q y (by omega)).2.2)]) ⟨⟨s2, a1, fun q => absurd (q y (by omega)).2.2 c5⟩, hs.trans a4⟩
set_option maxHeartbeats 4000000 in
theorem a_Rows_unpack {E : pmEv} {h : pmH} {z : Option Nat} {p r N : Nat} {t : Bool} {π : aPic} {ρ : aRow} (hd : p + 10 ≤ r ∨ r + 2 ≤ p) (hB : BA h r N ρ) (hN : ρ.2 ≤ N) (hP : PiA h p t π) : Call E mRows_unpack [.ref r, .ref p] h z 0 0 (RetX (some (.int (bI (upOk π ρ)))) (fun h' => (∃ s, PiA h' p t (π.1, s, π.2.2) ∧ (upOk π ρ → ∀ y, y < π.1.2.1 → ∀ x, x < π.1.1 → ∀ u, u < chN π.1.2.2.2 → s ((y * 12 + x) * 4 + u) = upV π ρ y x u)) ∧ Sm h h' p 10) z) := by
  refine call_of (L := [some (.ref r), some (.ref p), none, none, none]) ok_mRows_unpack (Nat.le_of_ble_eq_true rfl) ?_
  refine go_aload_n dRows_unpack_0 rfl ?_
  refine go_statP dRows_unpack_1 ok_mRows_rowLength st_mRows_rowLength qm_Rows_9 (a_Rows_rowLength hP) ?_ (hnp := np_mRows_rowLength)
  refine go_istore_n dRows_unpack_4 ?_
  refine go_iconst (v := 0) dRows_unpack_5 (by decide) ?_
  refine go_istore_n dRows_unpack_6 ?_
  exact l_Rows_unpack hd hB hN hP.2.2.2.2.2 π.1.2.1 0 π.2.1 h false (by omega) hP (Sm.refl _ _ _) (fun y hy => absurd hy (Nat.not_lt_zero _))
