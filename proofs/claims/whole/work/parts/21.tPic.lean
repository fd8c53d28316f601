/-! ===== Picture (by wip/whole/gen_tPic.py) ===== -/
/-- width, height, bits, kind; samples; palette; tags; extras -/
abbrev aPic : Type := (Nat × Nat × Nat × Nat) × (Nat → Int32) × aRow × (Nat → Int32) × aExt
def chN (k : Nat) : Nat := if k = 2 then 3 else if k = 4 then 2 else if k = 6 then 4 else 1
def okN (d : Nat × Nat × Nat × Nat) : Prop := (1 ≤ d.1 ∧ d.1 ≤ 12) ∧ (1 ≤ d.2.1 ∧ d.2.1 ≤ 12) ∧ (((d.2.2.2 = 0 ∨ d.2.2.2 = 3) ∧ (d.2.2.1 = 1 ∨ d.2.2.1 = 2 ∨ d.2.2.1 = 4 ∨ d.2.2.1 = 8)) ∨ ((d.2.2.2 = 2 ∨ d.2.2.2 = 4 ∨ d.2.2.2 = 6) ∧ d.2.2.1 = 8))
theorem chN_le (k : Nat) : 1 ≤ chN k ∧ chN k ≤ 4 := by unfold chN; grind
theorem chOf_n {k : Nat} (hk : k < 7) : chOf (nI k) = nI (chN k) := by
  have : ∀ k : Fin 7, chOf (nI k.1) = nI (chN k.1) := by decide
  exact this ⟨k, hk⟩
def SaA (h : pmH) (a w hh ch : Nat) (s : Nat → Int32) : Prop := ∃ f, h a = some (pmI 576 f) ∧ ∀ x, x < w → ∀ y, y < hh → ∀ u, u < ch → f ((y * 12 + x) * 4 + u) = s ((y * 12 + x) * 4 + u)
def PiA (h : pmH) (p : Nat) (t : Bool) (π : aPic) : Prop := h p = some (pmO 3 [.ref (p + 1), .ref (p + 3), .ref (p + 5), .ref (p + 9), .int (bI (t = true)), .int (nI π.1.1), .int (nI π.1.2.1), .int (nI π.1.2.2.1), .int (nI π.1.2.2.2), .int (nI (chN π.1.2.2.2))]) ∧ PaA h (p + 1) π.2.2.1 ∧ TgA h (p + 3) π.2.2.2.1 ∧ ExA h (p + 5) π.2.2.2.2 ∧ SaA h (p + 9) π.1.1 π.1.2.1 (chN π.1.2.2.2) π.2.1 ∧ okN π.1
theorem SaA.sm {h h' : pmH} {a w hh ch : Nat} {s : Nat → Int32} (hS : SaA h a w hh ch s) (hq : h' a = h a) : SaA h' a w hh ch s := hS.imp fun _ q => ⟨hq.trans q.1, q.2⟩
theorem SaA.le {h h' : pmH} {a w hh ch w' hh' ch' : Nat} {s : Nat → Int32} (hS : SaA h a w hh ch s) (hq : h' a = h a) (h1 : w' ≤ w) (h2 : hh' ≤ hh) (h3 : ch' ≤ ch) : SaA h' a w' hh' ch' s := hS.imp fun _ q => ⟨hq.trans q.1, fun x hx y hy u hu => q.2 x (by omega) y (by omega) u (by omega)⟩
theorem PiA.sm {h h' : pmH} {p a n : Nat} {t : Bool} {π : aPic} (hP : PiA h p t π) (hs : Sm h h' a n) (hd : p + 10 ≤ a ∨ a + n ≤ p) : PiA h' p t π := ⟨(hs _ (by omega)).trans hP.1, hP.2.1.sm hs (by omega), hP.2.2.1.sm hs (by omega), hP.2.2.2.1.sm hs (by omega), hP.2.2.2.2.1.sm (hs _ (by omega)), hP.2.2.2.2.2⟩
theorem PiA.pal {h h' : pmH} {p : Nat} {t : Bool} {π : aPic} {c : aRow} (hP : PiA h p t π) (hq : PaA h' (p + 1) c) (hs : Sm h h' (p + 1) 2) : PiA h' p t (π.1, π.2.1, c, π.2.2.2) := ⟨(hs _ (by omega)).trans hP.1, hq, hP.2.2.1.sm hs (by omega), hP.2.2.2.1.sm hs (by omega), hP.2.2.2.2.1.sm (hs _ (by omega)), hP.2.2.2.2.2⟩
theorem PiA.tag {h h' : pmH} {p : Nat} {t : Bool} {π : aPic} {c : Nat → Int32} (hP : PiA h p t π) (hq : TgA h' (p + 3) c) (hs : Sm h h' (p + 3) 2) : PiA h' p t (π.1, π.2.1, π.2.2.1, c, π.2.2.2.2) := ⟨(hs _ (by omega)).trans hP.1, hP.2.1.sm hs (by omega), hq, hP.2.2.2.1.sm hs (by omega), hP.2.2.2.2.1.sm (hs _ (by omega)), hP.2.2.2.2.2⟩
theorem PiA.ext {h h' : pmH} {p : Nat} {t : Bool} {π : aPic} {c : aExt} (hP : PiA h p t π) (hq : ExA h' (p + 5) c) (hs : Sm h h' (p + 5) 4) : PiA h' p t (π.1, π.2.1, π.2.2.1, π.2.2.2.1, c) := ⟨(hs _ (by omega)).trans hP.1, hP.2.1.sm hs (by omega), hP.2.2.1.sm hs (by omega), hq, hP.2.2.2.2.1.sm (hs _ (by omega)), hP.2.2.2.2.2⟩
theorem PiA.smp {h h' : pmH} {p : Nat} {t : Bool} {π : aPic} {s : Nat → Int32} (hP : PiA h p t π) (hq : SaA h' (p + 9) π.1.1 π.1.2.1 (chN π.1.2.2.2) s) (hs : Sm h h' (p + 9) 1) : PiA h' p t (π.1, s, π.2.2) := ⟨(hs _ (by omega)).trans hP.1, hP.2.1.sm hs (by omega), hP.2.2.1.sm hs (by omega), hP.2.2.2.1.sm hs (by omega), hq, hP.2.2.2.2.2⟩
theorem PiA.of {h h' : pmH} {p : Nat} {t t' : Bool} {π : aPic} {d : Nat × Nat × Nat × Nat} {s : Nat → Int32} (hP : PiA h p t π) (hq : h' p = some (pmO 3 [.ref (p + 1), .ref (p + 3), .ref (p + 5), .ref (p + 9), .int (bI (t' = true)), .int (nI d.1), .int (nI d.2.1), .int (nI d.2.2.1), .int (nI d.2.2.2), .int (nI (chN d.2.2.2))])) (hs : Sm h h' p 1) (hok : okN d) (hS : SaA h' (p + 9) d.1 d.2.1 (chN d.2.2.2) s) : PiA h' p t' (d, s, π.2.2) := ⟨hq, hP.2.1.sm hs (by omega), hP.2.2.1.sm hs (by omega), hP.2.2.2.1.sm hs (by omega), hS, hok⟩
theorem PiA.of' {h h' : pmH} {p : Nat} {t t' : Bool} {π : aPic} {d : Nat × Nat × Nat × Nat} {s : Nat → Int32} (hP : PiA h p t π) (hq : h' p = some (pmO 3 [.ref (p + 1), .ref (p + 3), .ref (p + 5), .ref (p + 9), .int (bI (t' = true)), .int (nI d.1), .int (nI d.2.1), .int (nI d.2.2.1), .int (nI d.2.2.2), .int (nI (chN d.2.2.2))])) (hs : ∀ q, q ≠ p ∧ q ≠ p + 9 → h' q = h q) (hok : okN d) (hS : SaA h' (p + 9) d.1 d.2.1 (chN d.2.2.2) s) : PiA h' p t' (d, s, π.2.2) := by
  refine ⟨hq, hP.2.1.fr (hs _ (by omega)) (hs _ (by omega)), ?_, ?_, hS, hok⟩
  · obtain ⟨h1, f, h2, h3⟩ := hP.2.2.1
    exact ⟨(hs _ (by omega)).trans h1, f, (hs _ (by omega)).trans h2, h3⟩
  · obtain ⟨h1, ⟨fl, fs, fb, h2, h3, h4, h5⟩, h6⟩ := hP.2.2.2.1
    exact ⟨(hs _ (by omega)).trans h1, ⟨fl, fs, fb, (hs _ (by omega)).trans h2, (hs _ (by omega)).trans h3, (hs _ (by omega)).trans h4, h5⟩, h6⟩
abbrev pHas (d : Nat × Nat × Nat × Nat) (x y u : Int32) : Prop := (0 ≤ x ∧ x < nI d.1) ∧ (0 ≤ y ∧ y < nI d.2.1) ∧ (0 ≤ u ∧ u < nI (chN d.2.2.2))
theorem okN.k {d : Nat × Nat × Nat × Nat} (h : okN d) : d.2.2.2 < 7 := by
  unfold okN at h
  omega
theorem okN.w {d : Nat × Nat × Nat × Nat} (h : okN d) : d.1 ≤ 12 ∧ d.2.1 ≤ 12 := ⟨h.1.2, h.2.1.2⟩
theorem pHas_n {d : Nat × Nat × Nat × Nat} (ho : okN d) {x y u : Nat} (hx : x < d.1) (hy : y < d.2.1) (hu : u < chN d.2.2.2) : pHas d (nI x) (nI y) (nI u) := by
  have := ho.w
  have := chN_le d.2.2.2
  exact ⟨(has_n (by omega) (by omega)).mpr hx, (has_n (by omega) (by omega)).mpr hy, (has_n (by omega) (by omega)).mpr hu⟩
theorem pl_n {x y u : Nat} : (nI y * 12 + nI x) * 4 + nI u = nI ((y * 12 + x) * 4 + u) := by rw [show (12 : Int32) = nI 12 from rfl, show (4 : Int32) = nI 4 from rfl, pk_mul, nI_add, pk_mul, nI_add]
theorem SaA_up {w hh ch : Nat} {f s : Nat → Int32} {j : Nat} {v : Int32} (ha : ∀ x, x < w → ∀ y, y < hh → ∀ u, u < ch → f ((y * 12 + x) * 4 + u) = s ((y * 12 + x) * 4 + u)) : ∀ x, x < w → ∀ y, y < hh → ∀ u, u < ch → upd f j v ((y * 12 + x) * 4 + u) = upd s j v ((y * 12 + x) * 4 + u) := fun x hx y hy u hu => by
  by_cases e : (y * 12 + x) * 4 + u = j
  · rw [← e, pk_us, pk_us]
  · rw [pk_un e, pk_un e]; exact ha x hx y hy u hu
theorem SaA_z {d : Nat × Nat × Nat × Nat} (ho : okN d) {f : Nat → Int32} {v : Int32} (ha : ∀ j, j < 576 → f j = v) : ∀ x, x < d.1 → ∀ y, y < d.2.1 → ∀ u, u < chN d.2.2.2 → f ((y * 12 + x) * 4 + u) = v := fun x hx y hy u hu => ha _ (by have := ho.w; have := chN_le d.2.2.2; omega)
theorem SaA_cp {d : Nat × Nat × Nat × Nat} (ho : okN d) {f g s : Nat → Int32} (ha : ∀ x, x < d.1 → ∀ y, y < d.2.1 → ∀ u, u < chN d.2.2.2 → g ((y * 12 + x) * 4 + u) = s ((y * 12 + x) * 4 + u)) : ∀ x, x < d.1 → ∀ y, y < d.2.1 → ∀ u, u < chN d.2.2.2 → va_cpy g f (0 : Int32).toNatClampNeg (0 : Int32).toNatClampNeg (Int32.ofNat 576).toNatClampNeg ((y * 12 + x) * 4 + u) = s ((y * 12 + x) * 4 + u) := fun x hx y hy u hu => by
  have := ho.w
  have := chN_le d.2.2.2
  exact (pk_cpy_in (by simp) (by simp; omega)).trans (by simpa using ha x hx y hy u hu)
abbrev smOk (π : aPic) (v : Int32) : Prop := 0 ≤ v ∧ v ≤ gr (nI π.1.2.2.1) ∧ (¬ nI π.1.2.2.2 = 3 ∨ (0 ≤ v ∧ v < nI π.2.2.1.2))
def piSafe (π : aPic) : aPic := (π.1, π.2.1, π.2.2.1, π.2.2.2.1, exSafe π.2.2.2.2.2.2.2 0 0 π.2.2.2.2)
def piNew (d : Nat × Nat × Nat × Nat) (π : aPic) : aPic := (d, fun _ => 0, (π.2.2.1.1, 0), fun _ => -1, (π.2.2.2.2.1, π.2.2.2.2.2.1, π.2.2.2.2.2.2.1, 0))
theorem go_nm {E : pmEv} {F : pmFr} {pc : Nat} {L : pmL} {st : List Value} {k n : Nat} {Q : pmA → pmS → Prop} {hh : pmH} {zz : Option Nat} {dd : Bool} (kk : ∀ h', h' = hh → Go E F pc L st (h', zz, dd) k n Q) : Go E F pc L st (hh, zz, dd) k n Q := kk _ rfl
set_option maxHeartbeats 4000000 in
theorem c_Picture_placeOf {E : pmEv} {h : pmH} {z : Option Nat} {x y u : Int32} : Call E mPicture_placeOf [.int x, .int y, .int u] h z 0 0 (Ret (some (.int ((y * 12 + x) * 4 + u))) (h, z, false)) := by
  refine call_of (L := [some (.int x), some (.int y), some (.int u)]) ok_mPicture_placeOf (Nat.le_of_ble_eq_true rfl) ?_
  refine go_iload_n dPicture_placeOf_0 rfl ?_
  refine go_bipush (v := 12) dPicture_placeOf_1 (by decide) ?_
  refine go_imul dPicture_placeOf_3 ?_
  refine go_iload_n dPicture_placeOf_4 rfl ?_
  refine go_iadd dPicture_placeOf_5 ?_
  refine go_iconst (v := 4) dPicture_placeOf_6 (by decide) ?_
  refine go_imul dPicture_placeOf_7 ?_
  refine go_iload_n dPicture_placeOf_8 rfl ?_
  refine go_iadd dPicture_placeOf_9 ?_
  refine go_iret dPicture_placeOf_10 rfl rfl ?_ (Nat.le_of_ble_eq_true rfl) (Nat.le_of_ble_eq_true rfl)
  exact ret_v
set_option maxHeartbeats 4000000 in
theorem a_Picture_has {E : pmEv} {h : pmH} {z : Option Nat} {p : Nat} {t : Bool} {π : aPic} {x y u : Int32} (hP : PiA h p t π) : Call E mPicture_has [.ref p, .int x, .int y, .int u] h z 0 0 (Ret (some (.int (bI (pHas π.1 x y u)))) (h, z, false)) := by
  refine call_of (L := [some (.ref p), some (.int x), some (.int y), some (.int u)]) ok_mPicture_has (Nat.le_of_ble_eq_true rfl) ?_
  refine go_iload_n dPicture_has_0 rfl ?_
  refine go_if_lt (tgt := 40) dPicture_has_1 (fun c1 => ?_) (fun c1 => ?_)
  · refine go_iconst (v := 0) dPicture_has_40 (by decide) ?_
    refine go_iret dPicture_has_41 rfl rfl ?_ (Nat.le_of_ble_eq_true rfl) (Nat.le_of_ble_eq_true rfl)
    first | (refine ret_bt ?_; grind) | (refine ret_bf ?_; grind)
  · refine go_iload_n dPicture_has_4 rfl ?_
    refine go_aload_n dPicture_has_5 rfl ?_
    refine go_getf dPicture_has_6 qf_Picture_36 hP.1 rfl ?_
    refine go_icmp_ge (tgt := 40) dPicture_has_9 (fun c2 => ?_) (fun c2 => ?_)
    · refine go_iconst (v := 0) dPicture_has_40 (by decide) ?_
      refine go_iret dPicture_has_41 rfl rfl ?_ (Nat.le_of_ble_eq_true rfl) (Nat.le_of_ble_eq_true rfl)
      first | (refine ret_bt ?_; grind) | (refine ret_bf ?_; grind)
    · refine go_iload_n dPicture_has_12 rfl ?_
      refine go_if_lt (tgt := 40) dPicture_has_13 (fun c3 => ?_) (fun c3 => ?_)
      · refine go_iconst (v := 0) dPicture_has_40 (by decide) ?_
        refine go_iret dPicture_has_41 rfl rfl ?_ (Nat.le_of_ble_eq_true rfl) (Nat.le_of_ble_eq_true rfl)
        first | (refine ret_bt ?_; grind) | (refine ret_bf ?_; grind)
      · refine go_iload_n dPicture_has_16 rfl ?_
        refine go_aload_n dPicture_has_17 rfl ?_
        refine go_getf dPicture_has_18 qf_Picture_40 hP.1 rfl ?_
        refine go_icmp_ge (tgt := 40) dPicture_has_21 (fun c4 => ?_) (fun c4 => ?_)
        · refine go_iconst (v := 0) dPicture_has_40 (by decide) ?_
          refine go_iret dPicture_has_41 rfl rfl ?_ (Nat.le_of_ble_eq_true rfl) (Nat.le_of_ble_eq_true rfl)
          first | (refine ret_bt ?_; grind) | (refine ret_bf ?_; grind)
        · refine go_iload_n dPicture_has_24 rfl ?_
          refine go_if_lt (tgt := 40) dPicture_has_25 (fun c5 => ?_) (fun c5 => ?_)
          · refine go_iconst (v := 0) dPicture_has_40 (by decide) ?_
            refine go_iret dPicture_has_41 rfl rfl ?_ (Nat.le_of_ble_eq_true rfl) (Nat.le_of_ble_eq_true rfl)
            first | (refine ret_bt ?_; grind) | (refine ret_bf ?_; grind)
          · refine go_iload_n dPicture_has_28 rfl ?_
            refine go_aload_n dPicture_has_29 rfl ?_
            refine go_getf dPicture_has_30 qf_Picture_49 hP.1 rfl ?_
            refine go_icmp_ge (tgt := 40) dPicture_has_33 (fun c6 => ?_) (fun c6 => ?_)
            · refine go_iconst (v := 0) dPicture_has_40 (by decide) ?_
              refine go_iret dPicture_has_41 rfl rfl ?_ (Nat.le_of_ble_eq_true rfl) (Nat.le_of_ble_eq_true rfl)
              first | (refine ret_bt ?_; grind) | (refine ret_bf ?_; grind)
            · refine go_iconst (v := 1) dPicture_has_36 (by decide) ?_
              refine go_goto (tgt := 41) dPicture_has_37 ?_
              refine go_iret dPicture_has_41 rfl rfl ?_ (Nat.le_of_ble_eq_true rfl) (Nat.le_of_ble_eq_true rfl)
              first | (refine ret_bt ?_; grind) | (refine ret_bf ?_; grind)
set_option maxHeartbeats 4000000 in
theorem a_Picture_sample {E : pmEv} {h : pmH} {z : Option Nat} {p : Nat} {t : Bool} {π : aPic} {x y u : Nat} (hx : x < π.1.1) (hy : y < π.1.2.1) (hu : u < chN π.1.2.2.2) (hP : PiA h p t π) : Call E mPicture_sample [.ref p, .int (nI x), .int (nI y), .int (nI u)] h z 0 0 (Ret (some (.int (π.2.1 ((y * 12 + x) * 4 + u)))) (h, z, false)) := by
  obtain ⟨f, h2, ha⟩ := hP.2.2.2.2.1
  have ho := hP.2.2.2.2.2
  have hwh := ho.w
  have hch := chN_le π.1.2.2.2
  refine call_of (L := [some (.ref p), some (.int (nI x)), some (.int (nI y)), some (.int (nI u))]) ok_mPicture_sample (Nat.le_of_ble_eq_true rfl) ?_
  refine go_aload_n dPicture_sample_0 rfl ?_
  refine go_iload_n dPicture_sample_1 rfl ?_
  refine go_iload_n dPicture_sample_2 rfl ?_
  refine go_iload_n dPicture_sample_3 rfl ?_
  refine go_virtP dPicture_sample_4 ok_mPicture_has im_mPicture_has se_mPicture_has qm_Picture_71 hP.1 (a_Picture_has hP) ?_ (hnp := np_mPicture_has)
  refine go_ifeq_b (tgt := 24) dPicture_sample_7 (fun c1 => ?_) (fun c1 => ?_)
  · refine go_iconst (v := 0) dPicture_sample_24 (by decide) ?_
    refine go_iret dPicture_sample_25 rfl rfl ?_ (Nat.le_of_ble_eq_true rfl) (Nat.le_of_ble_eq_true rfl)
    exact absurd (pHas_n ho hx hy hu) c1
  · refine go_aload_n dPicture_sample_10 rfl ?_
    refine go_getf dPicture_sample_11 qf_Picture_32 hP.1 rfl ?_
    refine go_iload_n dPicture_sample_14 rfl ?_
    refine go_iload_n dPicture_sample_15 rfl ?_
    refine go_iload_n dPicture_sample_16 rfl ?_
    refine go_statP dPicture_sample_17 ok_mPicture_placeOf st_mPicture_placeOf qm_Picture_75 c_Picture_placeOf ?_ (hnp := np_mPicture_placeOf)
    rw [pl_n]
    refine go_iald dPicture_sample_20 h2 (by exact vp_in_nI (by omega) (by omega)) (congrArg _ (nI_clamp (by omega))) ?_
    refine go_goto (tgt := 25) dPicture_sample_21 ?_
    refine go_iret dPicture_sample_25 rfl rfl ?_ (Nat.le_of_ble_eq_true rfl) (Nat.le_of_ble_eq_true rfl)
    exact ret_e (by rw [ha _ hx _ hy _ hu])
set_option maxHeartbeats 4000000 in
theorem a_Picture_setSample {E : pmEv} {h : pmH} {z : Option Nat} {p : Nat} {t : Bool} {π : aPic} {x y u : Nat} {v : Int32} (hx : x < π.1.1) (hy : y < π.1.2.1) (hu : u < chN π.1.2.2.2) (hP : PiA h p t π) : Call E mPicture_setSample [.ref p, .int (nI x), .int (nI y), .int (nI u), .int v] h z 0 0 (RetX none (fun h' => PiA h' p t (π.1, upd π.2.1 ((y * 12 + x) * 4 + u) v, π.2.2) ∧ Sm h h' p 10) z) := by
  obtain ⟨f, h2, ha⟩ := hP.2.2.2.2.1
  have ho := hP.2.2.2.2.2
  have hwh := ho.w
  have hch := chN_le π.1.2.2.2
  refine call_of (L := [some (.ref p), some (.int (nI x)), some (.int (nI y)), some (.int (nI u)), some (.int v)]) ok_mPicture_setSample (Nat.le_of_ble_eq_true rfl) ?_
  refine go_aload_n dPicture_setSample_0 rfl ?_
  refine go_iload_n dPicture_setSample_1 rfl ?_
  refine go_iload_n dPicture_setSample_2 rfl ?_
  refine go_iload_n dPicture_setSample_3 rfl ?_
  refine go_virtP dPicture_setSample_4 ok_mPicture_has im_mPicture_has se_mPicture_has qm_Picture_71 hP.1 (a_Picture_has hP) ?_ (hnp := np_mPicture_has)
  refine go_ifeq_b (tgt := 23) dPicture_setSample_7 (fun c1 => ?_) (fun c1 => ?_)
  · refine go_vret dPicture_setSample_23 rfl ?_ (Nat.le_of_ble_eq_true rfl) (Nat.le_of_ble_eq_true rfl)
    exact absurd (pHas_n ho hx hy hu) c1
  · refine go_aload_n dPicture_setSample_10 rfl ?_
    refine go_getf dPicture_setSample_11 qf_Picture_32 hP.1 rfl ?_
    refine go_iload_n dPicture_setSample_14 rfl ?_
    refine go_iload_n dPicture_setSample_15 rfl ?_
    refine go_iload_n dPicture_setSample_16 rfl ?_
    refine go_statP dPicture_setSample_17 ok_mPicture_placeOf st_mPicture_placeOf qm_Picture_75 c_Picture_placeOf ?_ (hnp := np_mPicture_placeOf)
    rw [pl_n]
    refine go_iload dPicture_setSample_20 rfl ?_
    refine go_iast dPicture_setSample_22 h2 (by exact vp_in_nI (by omega) (by omega)) (nI_clamp (by omega)) ?_
    refine go_vret dPicture_setSample_23 rfl ?_ (Nat.le_of_ble_eq_true rfl) (Nat.le_of_ble_eq_true rfl)
    exact retX ⟨hP.smp (s := upd π.2.1 ((y * 12 + x) * 4 + u) v) ⟨_, pmU_s _ _ _, SaA_up ha⟩ (Sm.put _ (by omega) (by omega)), Sm.put _ (by omega) (by omega)⟩
set_option maxHeartbeats 4000000 in
theorem a_Picture_sampleMayBe {E : pmEv} {h : pmH} {z : Option Nat} {p : Nat} {t : Bool} {π : aPic} {v : Int32} (hP : PiA h p t π) : Call E mPicture_sampleMayBe [.ref p, .int v] h z 0 0 (Ret (some (.int (bI (smOk π v)))) (h, z, false)) := by
  refine call_of (L := [some (.ref p), some (.int v)]) ok_mPicture_sampleMayBe (Nat.le_of_ble_eq_true rfl) ?_
  refine go_iload_n dPicture_sampleMayBe_0 rfl ?_
  refine go_if_lt (tgt := 38) dPicture_sampleMayBe_1 (fun c1 => ?_) (fun c1 => ?_)
  · refine go_iconst (v := 0) dPicture_sampleMayBe_38 (by decide) ?_
    refine go_iret dPicture_sampleMayBe_39 rfl rfl ?_ (Nat.le_of_ble_eq_true rfl) (Nat.le_of_ble_eq_true rfl)
    first | (refine ret_bt ?_; unfold smOk; grind) | (refine ret_bf ?_; unfold smOk; grind)
  · refine go_iload_n dPicture_sampleMayBe_4 rfl ?_
    refine go_aload_n dPicture_sampleMayBe_5 rfl ?_
    refine go_getf dPicture_sampleMayBe_6 qf_Picture_43 hP.1 rfl ?_
    refine go_statP dPicture_sampleMayBe_9 ok_mShape_greatest st_mShape_greatest qm_Picture_79 c_Shape_greatest ?_ (hnp := np_mShape_greatest)
    refine go_icmp_gt (tgt := 38) dPicture_sampleMayBe_12 (fun c2 => ?_) (fun c2 => ?_)
    · refine go_iconst (v := 0) dPicture_sampleMayBe_38 (by decide) ?_
      refine go_iret dPicture_sampleMayBe_39 rfl rfl ?_ (Nat.le_of_ble_eq_true rfl) (Nat.le_of_ble_eq_true rfl)
      first | (refine ret_bt ?_; unfold smOk; grind) | (refine ret_bf ?_; unfold smOk; grind)
    · refine go_aload_n dPicture_sampleMayBe_15 rfl ?_
      refine go_getf dPicture_sampleMayBe_16 qf_Picture_46 hP.1 rfl ?_
      refine go_iconst (v := 3) dPicture_sampleMayBe_19 (by decide) ?_
      refine go_icmp_ne (tgt := 34) dPicture_sampleMayBe_20 (fun c3 => ?_) (fun c3 => ?_)
      · refine go_iconst (v := 1) dPicture_sampleMayBe_34 (by decide) ?_
        refine go_goto (tgt := 39) dPicture_sampleMayBe_35 ?_
        refine go_iret dPicture_sampleMayBe_39 rfl rfl ?_ (Nat.le_of_ble_eq_true rfl) (Nat.le_of_ble_eq_true rfl)
        first | (refine ret_bt ?_; unfold smOk; grind) | (refine ret_bf ?_; unfold smOk; grind)
      · refine go_aload_n dPicture_sampleMayBe_23 rfl ?_
        refine go_getf dPicture_sampleMayBe_24 qf_Picture_12 hP.1 rfl ?_
        refine go_iload_n dPicture_sampleMayBe_27 rfl ?_
        refine go_virtP dPicture_sampleMayBe_28 ok_mPalette_has im_mPalette_has se_mPalette_has qm_Picture_82 hP.2.1.1 (a_Palette_has hP.2.1) ?_ (hnp := np_mPalette_has)
        refine go_ifeq_b (tgt := 38) dPicture_sampleMayBe_31 (fun c4 => ?_) (fun c4 => ?_)
        · refine go_iconst (v := 0) dPicture_sampleMayBe_38 (by decide) ?_
          refine go_iret dPicture_sampleMayBe_39 rfl rfl ?_ (Nat.le_of_ble_eq_true rfl) (Nat.le_of_ble_eq_true rfl)
          first | (refine ret_bt ?_; unfold smOk; grind) | (refine ret_bf ?_; unfold smOk; grind)
        · refine go_iconst (v := 1) dPicture_sampleMayBe_34 (by decide) ?_
          refine go_goto (tgt := 39) dPicture_sampleMayBe_35 ?_
          refine go_iret dPicture_sampleMayBe_39 rfl rfl ?_ (Nat.le_of_ble_eq_true rfl) (Nat.le_of_ble_eq_true rfl)
          first | (refine ret_bt ?_; unfold smOk; grind) | (refine ret_bf ?_; unfold smOk; grind)
set_option maxHeartbeats 4000000 in
theorem a_Picture_hasChanged {E : pmEv} {h : pmH} {z : Option Nat} {p : Nat} {t : Bool} {π : aPic} (hP : PiA h p t π) : Call E mPicture_hasChanged [.ref p] h z 0 0 (RetX none (fun h' => PiA h' p t (piSafe π) ∧ Sm h h' p 10) z) := by
  refine call_of (L := [some (.ref p)]) ok_mPicture_hasChanged (Nat.le_of_ble_eq_true rfl) ?_
  refine go_aload_n dPicture_hasChanged_0 rfl ?_
  refine go_getf dPicture_hasChanged_1 qf_Picture_28 hP.1 rfl ?_
  refine go_virtX dPicture_hasChanged_4 ok_mExtras_leaveOnlySafeOnes im_mExtras_leaveOnlySafeOnes se_mExtras_leaveOnlySafeOnes qm_Picture_85 hP.2.2.2.1.1 (a_Extras_leave hP.2.2.2.1) (fun hx1 d1 q1 => ?_) (hnp := np_mExtras_leaveOnlySafeOnes)
  refine go_vret dPicture_hasChanged_7 rfl ?_ (Nat.le_of_ble_eq_true rfl) (Nat.le_of_ble_eq_true rfl)
  exact retX ⟨hP.ext q1.1 q1.2, q1.2.sub (by omega) (by omega)⟩
set_option maxHeartbeats 4000000 in
theorem a_Picture_become {E : pmEv} {h : pmH} {z : Option Nat} {p : Nat} {t : Bool} {π : aPic} {b k : Nat} (hk : chN k ≤ chN π.1.2.2.2) (hok : okN (π.1.1, π.1.2.1, b, k)) (hP : PiA h p t π) : Call E mPicture_become [.ref p, .int (nI k), .int (nI b)] h z 0 0 (RetX none (fun h' => PiA h' p t ((π.1.1, π.1.2.1, b, k), π.2) ∧ Sm h h' p 10) z) := by
  refine call_of (L := [some (.ref p), some (.int (nI k)), some (.int (nI b))]) ok_mPicture_become (Nat.le_of_ble_eq_true rfl) ?_
  refine go_aload_n dPicture_become_0 rfl ?_
  refine go_iload_n dPicture_become_1 rfl ?_
  refine go_putf dPicture_become_2 qf_Picture_46 pw_3_8 hP.1 rfl rfl ?_
  refine go_aload_n dPicture_become_5 rfl ?_
  refine go_iload_n dPicture_become_6 rfl ?_
  refine go_putf dPicture_become_7 qf_Picture_43 pw_3_7 (pmU_s _ _ _) rfl rfl ?_
  refine go_aload_n dPicture_become_10 rfl ?_
  refine go_iload_n dPicture_become_11 rfl ?_
  refine go_statP dPicture_become_12 ok_mShape_channelsOf st_mShape_channelsOf qm_Picture_56 c_Shape_channelsOf ?_ (hnp := np_mShape_channelsOf)
  refine go_putf dPicture_become_15 qf_Picture_49 pw_3_9 (pmU_s _ _ _) rfl rfl ?_
  refine go_nm (fun hn en => ?_)
  have gs : Sm h hn p 1 := by rw [en]; exact (Sm.put' (Sm.put' (Sm.put' (Sm.refl _ _ _) _ (by omega) (by omega)) _ (by omega) (by omega)) _ (by omega) (by omega))
  have g1 := congrFun en p
  have hP1 : PiA hn p t ((π.1.1, π.1.2.1, b, k), π.2) := PiA.of hP (by rw [← chOf_n (k := k) (show k < 7 from hok.k)]; exact g1.trans (pmU_s _ _ _)) gs hok (SaA.le hP.2.2.2.2.1 (gs _ (by omega)) (Nat.le_refl _) (Nat.le_refl _) hk)
  refine go_vret dPicture_become_18 rfl ?_ (Nat.le_of_ble_eq_true rfl) (Nat.le_of_ble_eq_true rfl)
  exact retX ⟨hP1, gs.sub (by omega) (by omega)⟩
set_option maxHeartbeats 4000000 in
theorem a_Picture_begin {E : pmEv} {h : pmH} {z : Option Nat} {p : Nat} {t : Bool} {π : aPic} {w hh b k : Nat} (hok : okN (w, hh, b, k)) (hP : PiA h p t π) : Call E mPicture_begin [.ref p, .int (nI w), .int (nI hh), .int (nI b), .int (nI k)] h z 0 0 (RetX none (fun h' => PiA h' p true (piNew (w, hh, b, k) π) ∧ Sm h h' p 10) z) := by
  obtain ⟨f, h2, ha⟩ := hP.2.2.2.2.1
  have ho := hP.2.2.2.2.2
  have hwh := ho.w
  have hch := chN_le π.1.2.2.2
  refine call_of (L := [some (.ref p), some (.int (nI w)), some (.int (nI hh)), some (.int (nI b)), some (.int (nI k))]) ok_mPicture_begin (Nat.le_of_ble_eq_true rfl) ?_
  refine go_aload_n dPicture_begin_0 rfl ?_
  refine go_iconst (v := 1) dPicture_begin_1 (by decide) ?_
  refine go_putf dPicture_begin_2 qf_Picture_52 pw_3_4 hP.1 rfl rfl ?_
  refine go_aload_n dPicture_begin_5 rfl ?_
  refine go_iload_n dPicture_begin_6 rfl ?_
  refine go_putf dPicture_begin_7 qf_Picture_36 pw_3_5 (pmU_s _ _ _) rfl rfl ?_
  refine go_aload_n dPicture_begin_10 rfl ?_
  refine go_iload_n dPicture_begin_11 rfl ?_
  refine go_putf dPicture_begin_12 qf_Picture_40 pw_3_6 (pmU_s _ _ _) rfl rfl ?_
  refine go_aload_n dPicture_begin_15 rfl ?_
  refine go_iload_n dPicture_begin_16 rfl ?_
  refine go_putf dPicture_begin_17 qf_Picture_43 pw_3_7 (pmU_s _ _ _) rfl rfl ?_
  refine go_aload_n dPicture_begin_20 rfl ?_
  refine go_iload dPicture_begin_21 rfl ?_
  refine go_putf dPicture_begin_23 qf_Picture_46 pw_3_8 (pmU_s _ _ _) rfl rfl ?_
  refine go_aload_n dPicture_begin_26 rfl ?_
  refine go_iload dPicture_begin_27 rfl ?_
  refine go_statP dPicture_begin_29 ok_mShape_channelsOf st_mShape_channelsOf qm_Picture_56 c_Shape_channelsOf ?_ (hnp := np_mShape_channelsOf)
  refine go_putf dPicture_begin_32 qf_Picture_49 pw_3_9 (pmU_s _ _ _) rfl rfl ?_
  refine go_nm (fun hn en => ?_)
  have gs : Sm h hn p 1 := by rw [en]; exact (Sm.put' (Sm.put' (Sm.put' (Sm.put' (Sm.put' (Sm.put' (Sm.refl _ _ _) _ (by omega) (by omega)) _ (by omega) (by omega)) _ (by omega) (by omega)) _ (by omega) (by omega)) _ (by omega) (by omega)) _ (by omega) (by omega))
  have g1 := congrFun en p
  have hP1 : PiA hn p true ((w, hh, b, k), f, π.2.2) := PiA.of hP (by rw [← chOf_n (k := k) (show k < 7 from hok.k)]; exact g1.trans (pmU_s _ _ _)) gs hok ⟨f, (gs _ (by omega)).trans h2, fun _ _ _ _ _ _ => rfl⟩
  refine go_aload_n dPicture_begin_35 rfl ?_
  refine go_getf dPicture_begin_36 qf_Picture_32 hP1.1 rfl ?_
  refine go_iconst (v := 0) dPicture_begin_39 (by decide) ?_
  refine go_statX dPicture_begin_40 ok_mArrays_fill st_mArrays_fill qm_Picture_60 (a_Arrays_fill (by omega) ((gs (p + 9) (by omega)).trans h2)) (fun hx1 d1 q1 => ?_) (hnp := np_mArrays_fill)
  obtain ⟨⟨fz, z1, z2⟩, zs⟩ := q1
  have hP2 := hP1.smp (s := fun _ => 0) ⟨fz, z1, SaA_z hok z2⟩ zs
  refine go_aload_n dPicture_begin_43 rfl ?_
  refine go_getf dPicture_begin_44 qf_Picture_12 hP2.1 rfl ?_
  refine go_virtX dPicture_begin_47 ok_mPalette_clear im_mPalette_clear se_mPalette_clear qm_Picture_66 hP2.2.1.1 (a_Palette_clear hP2.2.1) (fun hx2 d2 q2 => ?_) (hnp := np_mPalette_clear)
  have hP3 := hP2.pal q2.1 q2.2
  have s3 := q2.2
  refine go_aload_n dPicture_begin_50 rfl ?_
  refine go_getf dPicture_begin_51 qf_Picture_21 hP3.1 rfl ?_
  refine go_virtX dPicture_begin_54 ok_mTags_clear im_mTags_clear se_mTags_clear qm_Picture_69 hP3.2.2.1.1 (a_Tags_clear hP3.2.2.1) (fun hx3 d3 q3 => ?_) (hnp := np_mTags_clear)
  have hP4 := hP3.tag q3.1 q3.2
  have s4 := q3.2
  refine go_aload_n dPicture_begin_57 rfl ?_
  refine go_getf dPicture_begin_58 qf_Picture_28 hP4.1 rfl ?_
  refine go_virtX dPicture_begin_61 ok_mExtras_clear im_mExtras_clear se_mExtras_clear qm_Picture_70 hP4.2.2.2.1.1 (a_Extras_clear hP4.2.2.2.1) (fun hx4 d4 q4 => ?_) (hnp := np_mExtras_clear)
  have hP5 := hP4.ext q4.1 q4.2
  have s5 := q4.2
  refine go_vret dPicture_begin_64 rfl ?_ (Nat.le_of_ble_eq_true rfl) (Nat.le_of_ble_eq_true rfl)
  exact retX ⟨hP5, ((((gs.sub (a := p) (n := 10) (by omega) (by omega)).trans (zs.sub (a := p) (n := 10) (by omega) (by omega))).trans (s3.sub (a := p) (n := 10) (by omega) (by omega))).trans (s4.sub (a := p) (n := 10) (by omega) (by omega))).trans (s5.sub (a := p) (n := 10) (by omega) (by omega))⟩
set_option maxHeartbeats 4000000 in
theorem a_Picture_copyFrom {E : pmEv} {h : pmH} {z : Option Nat} {p o : Nat} {t v : Bool} {π ρ : aPic} (hd : p + 10 ≤ o ∨ o + 10 ≤ p) (hP : PiA h p t π) (hO : PiA h o v ρ) : Call E mPicture_copyFrom [.ref p, .ref o] h z 0 0 (RetX none (fun h' => PiA h' p v ρ ∧ Sm h h' p 10) z) := by
  obtain ⟨f, h2, ha⟩ := hP.2.2.2.2.1
  have ho := hP.2.2.2.2.2
  have hwh := ho.w
  have hch := chN_le π.1.2.2.2
  obtain ⟨g, h3, hb⟩ := hO.2.2.2.2.1
  refine call_of (L := [some (.ref p), some (.ref o)]) ok_mPicture_copyFrom (Nat.le_of_ble_eq_true rfl) ?_
  refine go_aload_n dPicture_copyFrom_0 rfl ?_
  refine go_aload_n dPicture_copyFrom_1 rfl ?_
  refine go_getf dPicture_copyFrom_2 qf_Picture_52 hO.1 rfl ?_
  refine go_putf dPicture_copyFrom_5 qf_Picture_52 pw_3_4 hP.1 bI_n bI_fit ?_
  refine go_aload_n dPicture_copyFrom_8 rfl ?_
  refine go_aload_n dPicture_copyFrom_9 rfl ?_
  refine go_getf dPicture_copyFrom_10 qf_Picture_36 ((pmU_n _ _ (by omega)).trans hO.1) rfl ?_
  refine go_putf dPicture_copyFrom_13 qf_Picture_36 pw_3_5 (pmU_s _ _ _) rfl rfl ?_
  refine go_aload_n dPicture_copyFrom_16 rfl ?_
  refine go_aload_n dPicture_copyFrom_17 rfl ?_
  refine go_getf dPicture_copyFrom_18 qf_Picture_40 ((pmU_n _ _ (by omega)).trans ((pmU_n _ _ (by omega)).trans hO.1)) rfl ?_
  refine go_putf dPicture_copyFrom_21 qf_Picture_40 pw_3_6 (pmU_s _ _ _) rfl rfl ?_
  refine go_aload_n dPicture_copyFrom_24 rfl ?_
  refine go_aload_n dPicture_copyFrom_25 rfl ?_
  refine go_getf dPicture_copyFrom_26 qf_Picture_43 ((pmU_n _ _ (by omega)).trans ((pmU_n _ _ (by omega)).trans ((pmU_n _ _ (by omega)).trans hO.1))) rfl ?_
  refine go_putf dPicture_copyFrom_29 qf_Picture_43 pw_3_7 (pmU_s _ _ _) rfl rfl ?_
  refine go_aload_n dPicture_copyFrom_32 rfl ?_
  refine go_aload_n dPicture_copyFrom_33 rfl ?_
  refine go_getf dPicture_copyFrom_34 qf_Picture_46 ((pmU_n _ _ (by omega)).trans ((pmU_n _ _ (by omega)).trans ((pmU_n _ _ (by omega)).trans ((pmU_n _ _ (by omega)).trans hO.1)))) rfl ?_
  refine go_putf dPicture_copyFrom_37 qf_Picture_46 pw_3_8 (pmU_s _ _ _) rfl rfl ?_
  refine go_aload_n dPicture_copyFrom_40 rfl ?_
  refine go_aload_n dPicture_copyFrom_41 rfl ?_
  refine go_getf dPicture_copyFrom_42 qf_Picture_49 ((pmU_n _ _ (by omega)).trans ((pmU_n _ _ (by omega)).trans ((pmU_n _ _ (by omega)).trans ((pmU_n _ _ (by omega)).trans ((pmU_n _ _ (by omega)).trans hO.1))))) rfl ?_
  refine go_putf dPicture_copyFrom_45 qf_Picture_49 pw_3_9 (pmU_s _ _ _) rfl rfl ?_
  refine go_aload_n dPicture_copyFrom_48 rfl ?_
  refine go_getf dPicture_copyFrom_49 qf_Picture_32 ((pmU_n _ _ (by omega)).trans ((pmU_n _ _ (by omega)).trans ((pmU_n _ _ (by omega)).trans ((pmU_n _ _ (by omega)).trans ((pmU_n _ _ (by omega)).trans ((pmU_n _ _ (by omega)).trans hO.1)))))) rfl ?_
  refine go_iconst (v := 0) dPicture_copyFrom_52 (by decide) ?_
  refine go_aload_n dPicture_copyFrom_53 rfl ?_
  refine go_getf dPicture_copyFrom_54 qf_Picture_32 (pmU_s _ _ _) rfl ?_
  refine go_iconst (v := 0) dPicture_copyFrom_57 (by decide) ?_
  refine go_aload_n dPicture_copyFrom_58 rfl ?_
  refine go_getf dPicture_copyFrom_59 qf_Picture_32 (pmU_s _ _ _) rfl ?_
  refine go_alen dPicture_copyFrom_62 ((pmU_n _ _ (by omega)).trans ((pmU_n _ _ (by omega)).trans ((pmU_n _ _ (by omega)).trans ((pmU_n _ _ (by omega)).trans ((pmU_n _ _ (by omega)).trans ((pmU_n _ _ (by omega)).trans h2)))))) rfl ?_
  refine go_copy dPicture_copyFrom_63 qp_Picture_88 ((pmU_n _ _ (by omega)).trans ((pmU_n _ _ (by omega)).trans ((pmU_n _ _ (by omega)).trans ((pmU_n _ _ (by omega)).trans ((pmU_n _ _ (by omega)).trans ((pmU_n _ _ (by omega)).trans h3)))))) ((pmU_n _ _ (by omega)).trans ((pmU_n _ _ (by omega)).trans ((pmU_n _ _ (by omega)).trans ((pmU_n _ _ (by omega)).trans ((pmU_n _ _ (by omega)).trans ((pmU_n _ _ (by omega)).trans h2)))))) (by decide) (by decide) (by decide) (by decide) (by decide) ?_
  refine go_nm (fun hn en => ?_)
  have gs : Sm h hn p 10 := by rw [en]; exact (Sm.put' (Sm.put' (Sm.put' (Sm.put' (Sm.put' (Sm.put' (Sm.put' (Sm.refl _ _ _) _ (by omega) (by omega)) _ (by omega) (by omega)) _ (by omega) (by omega)) _ (by omega) (by omega)) _ (by omega) (by omega)) _ (by omega) (by omega)) _ (by omega) (by omega))
  have g1 := congrFun en p
  have g2 := congrFun en (p + 9)
  have hP1 : PiA hn p v (ρ.1, ρ.2.1, π.2.2) := PiA.of' hP (g1.trans ((pmU_n _ _ (by omega)).trans (pmU_s _ _ _))) (by rw [en]; exact fun q e => by rw [pmU_n _ _ (by omega)]; exact ((Sm.put' (Sm.put' (Sm.put' (Sm.put' (Sm.put' (Sm.put' (Sm.refl _ _ _) _ (by omega) (by omega)) _ (by omega) (by omega)) _ (by omega) (by omega)) _ (by omega) (by omega)) _ (by omega) (by omega)) _ (by omega) (by omega)) : Sm h _ p 1) q (by omega)) hO.2.2.2.2.2 ⟨_, g2.trans (pmU_s _ _ _), SaA_cp hO.2.2.2.2.2 hb⟩
  have hO1 := hO.sm gs (by omega)
  refine go_aload_n dPicture_copyFrom_66 rfl ?_
  refine go_getf dPicture_copyFrom_67 qf_Picture_12 hP1.1 rfl ?_
  refine go_aload_n dPicture_copyFrom_70 rfl ?_
  refine go_getf dPicture_copyFrom_71 qf_Picture_12 hO1.1 rfl ?_
  refine go_virtX dPicture_copyFrom_74 ok_mPalette_copyFrom im_mPalette_copyFrom se_mPalette_copyFrom qm_Picture_94 hP1.2.1.1 (a_Palette_copyFrom (by omega) hP1.2.1 hO1.2.1) (fun hx1 d1 q1 => ?_) (hnp := np_mPalette_copyFrom)
  have hP2 := hP1.pal q1.1 q1.2
  have s2 := q1.2.sub (a := p) (n := 10) (by omega) (by omega)
  have hO2 := hO1.sm s2 (by omega)
  refine go_aload_n dPicture_copyFrom_77 rfl ?_
  refine go_getf dPicture_copyFrom_78 qf_Picture_21 hP2.1 rfl ?_
  refine go_aload_n dPicture_copyFrom_81 rfl ?_
  refine go_getf dPicture_copyFrom_82 qf_Picture_21 hO2.1 rfl ?_
  refine go_virtX dPicture_copyFrom_85 ok_mTags_copyFrom im_mTags_copyFrom se_mTags_copyFrom qm_Picture_98 hP2.2.2.1.1 (a_Tags_copyFrom (by omega) hP2.2.2.1 hO2.2.2.1) (fun hx2 d2 q2 => ?_) (hnp := np_mTags_copyFrom)
  have hP3 := hP2.tag q2.1 q2.2
  have s3 := q2.2.sub (a := p) (n := 10) (by omega) (by omega)
  have hO3 := hO2.sm s3 (by omega)
  refine go_aload_n dPicture_copyFrom_88 rfl ?_
  refine go_getf dPicture_copyFrom_89 qf_Picture_28 hP3.1 rfl ?_
  refine go_aload_n dPicture_copyFrom_92 rfl ?_
  refine go_getf dPicture_copyFrom_93 qf_Picture_28 hO3.1 rfl ?_
  refine go_virtX dPicture_copyFrom_96 ok_mExtras_copyFrom im_mExtras_copyFrom se_mExtras_copyFrom qm_Picture_101 hP3.2.2.2.1.1 (a_Extras_copyFrom (by omega) hP3.2.2.2.1 hO3.2.2.2.1) (fun hx3 d3 q3 => ?_) (hnp := np_mExtras_copyFrom)
  have hP4 := hP3.ext q3.1 q3.2
  have s4 := q3.2.sub (a := p) (n := 10) (by omega) (by omega)
  have hO4 := hO3.sm s4 (by omega)
  refine go_vret dPicture_copyFrom_99 rfl ?_ (Nat.le_of_ble_eq_true rfl) (Nat.le_of_ble_eq_true rfl)
  exact retX ⟨hP4, ((gs.trans s2).trans s3).trans s4⟩
