/-! ===== Tags and Extras (by wip/whole/gen_tExt.py) ===== -/
abbrev tgOk (x y : Int32) : Prop := (x = 1 ∧ 0 ≤ y ∧ y ≤ 3) ∨ (¬ x = 1 ∧ 1 ≤ y)
def TgA (h : pmH) (t : Nat) (τ : Nat → Int32) : Prop := h t = some (pmO 5 [.ref (t + 1)]) ∧ ∃ f, h (t + 1) = some (pmI 3 f) ∧ Ag 3 f τ
theorem TgA.sm {h h' : pmH} {t a n : Nat} {τ : Nat → Int32} (hT : TgA h t τ) (hs : Sm h h' a n) (hd : t + 2 ≤ a ∨ a + n ≤ t) : TgA h' t τ := by
  obtain ⟨h1, f, h2, h3⟩ := hT
  exact ⟨(hs _ (by omega)).trans h1, f, (hs _ (by omega)).trans h2, h3⟩
/-- chunks of others: their letters, how many bytes each has, the bytes, how many there are -/
abbrev aExt : Type := (Nat → Int32) × (Nat → Nat) × (Nat → Int32) × Nat
def eAr (e : aExt) (fl fs fb : Nat → Int32) : Prop := Ag e.2.2.2 fl e.1 ∧ (∀ k, k < e.2.2.2 → fs k = nI (e.2.1 k) ∧ e.2.1 k ≤ 40) ∧ ∀ k, k < e.2.2.2 → ∀ i, i < e.2.1 k → fb (40 * k + i) = e.2.2.1 (40 * k + i)
def ExA (h : pmH) (x : Nat) (e : aExt) : Prop := h x = some (pmO 1 [.ref (x + 1), .ref (x + 2), .ref (x + 3), .int (nI e.2.2.2)]) ∧ (∃ fl fs fb, h (x + 1) = some (pmI 6 fl) ∧ h (x + 2) = some (pmI 6 fs) ∧ h (x + 3) = some (pmI 240 fb) ∧ eAr e fl fs fb) ∧ e.2.2.2 ≤ 6
theorem ExA.sm {h h' : pmH} {x a n : Nat} {e : aExt} (hX : ExA h x e) (hs : Sm h h' a n) (hd : x + 4 ≤ a ∨ a + n ≤ x) : ExA h' x e := by
  obtain ⟨h1, ⟨fl, fs, fb, h2, h3, h4, h5⟩, h6⟩ := hX
  exact ⟨(hs _ (by omega)).trans h1, ⟨fl, fs, fb, (hs _ (by omega)).trans h2, (hs _ (by omega)).trans h3, (hs _ (by omega)).trans h4, h5⟩, h6⟩
def updN (f : Nat → Nat) (j x : Nat) : Nat → Nat := fun i => if i = j then x else f i
theorem updN_s {f : Nat → Nat} {j x : Nat} : updN f j x j = x := if_pos rfl
theorem updN_n {f : Nat → Nat} {i j x : Nat} (h : i ≠ j) : updN f j x i = f i := if_neg h
def exAdd (e : aExt) (y : Int32) : aExt := (upd e.1 e.2.2.2 y, updN e.2.1 e.2.2.2 0, e.2.2.1, e.2.2.2 + 1)
def exAddB (e : aExt) (k : Nat) (y : Int32) : aExt := (e.1, updN e.2.1 k (e.2.1 k + 1), upd e.2.2.1 (40 * k + e.2.1 k) y, e.2.2.2)
def exMv (e : aExt) (k t : Nat) : aExt := (upd e.1 t (e.1 k), updN e.2.1 t (e.2.1 k), va_cpy e.2.2.1 e.2.2.1 (40 * k) (40 * t) 40, e.2.2.2)
/-- only those without a great fourth letter stay -/
def exSafe : Nat → Nat → Nat → aExt → aExt
  | 0, _, t, e => (e.1, e.2.1, e.2.2.1, t)
  | n + 1, k, t, e => if 65 ≤ ltr (e.1 k) 3 ∧ ltr (e.1 k) 3 ≤ 90 then exSafe n (k + 1) t e else exSafe n (k + 1) (t + 1) (exMv e k t)
theorem eAr_0 {fl fs fb : Nat → Int32} {L : Nat → Int32} {S : Nat → Nat} {B : Nat → Int32} : eAr (L, S, B, 0) fl fs fb := ⟨fun i hi => absurd hi (Nat.not_lt_zero _), fun k hk => absurd hk (Nat.not_lt_zero _), fun k hk => absurd hk (Nat.not_lt_zero _)⟩
theorem eAr_le {e : aExt} {fl fs fb : Nat → Int32} {c : Nat} (h : eAr e fl fs fb) (hc : c ≤ e.2.2.2) : eAr (e.1, e.2.1, e.2.2.1, c) fl fs fb := ⟨h.1.mono hc, fun k hk => h.2.1 k (Nat.lt_of_lt_of_le hk hc), fun k hk => h.2.2 k (Nat.lt_of_lt_of_le hk hc)⟩
theorem eAr_add {e : aExt} {fl fs fb : Nat → Int32} {y : Int32} (h : eAr e fl fs fb) : eAr (exAdd e y) (upd fl e.2.2.2 y) (upd fs e.2.2.2 0) fb := by
  refine ⟨h.1.push y, fun k hk => ?_, fun k hk i hi => ?_⟩
  · by_cases q : k = e.2.2.2
    · subst q; rw [pk_us]; simp only [exAdd, updN_s]; exact ⟨rfl, by omega⟩
    · rw [pk_un q]; simp only [exAdd, updN_n q]; exact h.2.1 k (by simp only [exAdd] at hk; omega)
  · by_cases q : k = e.2.2.2
    · subst q; simp only [exAdd, updN_s] at hi; omega
    · simp only [exAdd, updN_n q] at hi; exact h.2.2 k (by simp only [exAdd] at hk; omega) i hi
theorem eAr_addB {e : aExt} {fl fs fb : Nat → Int32} {k : Nat} {y : Int32} (h : eAr e fl fs fb) (hk : k < e.2.2.2) (hl : e.2.1 k < 40) (hf : fs k = nI (e.2.1 k)) : eAr (exAddB e k y) fl (upd fs k (fs k + 1)) (upd fb (40 * k + e.2.1 k) y) := by
  refine ⟨h.1, fun j hj => ?_, fun j hj i hi => ?_⟩
  · by_cases q : j = k
    · subst q; rw [pk_us, hf, nI_a1]; simp only [exAddB, updN_s]; exact ⟨trivial, by omega⟩
    · rw [pk_un q]; simp only [exAddB, updN_n q]; exact h.2.1 j hj
  · have h40 := (h.2.1 j hj).2
    by_cases q : j = k
    · subst q
      simp only [exAddB, updN_s] at hi ⊢
      by_cases w : i = e.2.1 j
      · subst w; rw [pk_us, pk_us]
      · rw [pk_un (by omega), pk_un (by omega)]; exact h.2.2 j hj i (by omega)
    · simp only [exAddB, updN_n q] at hi ⊢
      rw [pk_un (by omega), pk_un (by omega)]; exact h.2.2 j hj i hi
theorem eAr_mv {e : aExt} {fl fs fb : Nat → Int32} {k t : Nat} (h : eAr e fl fs fb) (hk : k < e.2.2.2) (ht : t < e.2.2.2) : eAr (exMv e k t) (upd fl t (fl k)) (upd fs t (fs k)) (va_cpy fb fb (40 * k) (40 * t) 40) := by
  have hk40 := (h.2.1 k hk).2
  refine ⟨fun j hj => ?_, fun j hj => ?_, fun j hj i hi => ?_⟩
  · by_cases q : j = t
    · subst q; simp only [exMv]; rw [pk_us, pk_us]; exact h.1 k hk
    · simp only [exMv]; rw [pk_un q, pk_un q]; exact h.1 j hj
  · by_cases q : j = t
    · subst q; simp only [exMv]; rw [pk_us, updN_s]; exact h.2.1 k hk
    · simp only [exMv]; rw [pk_un q, updN_n q]; exact h.2.1 j hj
  · by_cases q : j = t
    · subst q
      simp only [exMv, updN_s] at hi ⊢
      rw [pk_cpy_in (by omega) (by omega), pk_cpy_in (by omega) (by omega), show 40 * k + (40 * j + i - 40 * j) = 40 * k + i by omega]
      exact h.2.2 k hk i hi
    · simp only [exMv, updN_n q] at hi ⊢
      have h40 := (h.2.1 j hj).2
      rw [pk_cpy_out (by omega), pk_cpy_out (by omega)]
      exact h.2.2 j hj i hi
theorem exMv_self {e : aExt} {k : Nat} : exMv e k k = e := by
  have h1 : upd e.1 k (e.1 k) = e.1 := by funext i; by_cases q : i = k <;> simp [upd, q]
  have h2 : updN e.2.1 k (e.2.1 k) = e.2.1 := by funext i; by_cases q : i = k <;> simp [updN, q]
  have h3 : va_cpy e.2.2.1 e.2.2.1 (40 * k) (40 * k) 40 = e.2.2.1 := by
    funext i
    by_cases q : 40 * k ≤ i ∧ i < 40 * k + 40
    · rw [pk_cpy_in q.1 q.2, show 40 * k + (i - 40 * k) = i by omega]
    · rw [pk_cpy_out (by omega)]
  simp only [exMv]
  rw [h1, h2, h3]
theorem eAr_cp {e : aExt} {fl fs fb gl gs gb : Nat → Int32} (hc : e.2.2.2 ≤ 6) (h : eAr e gl gs gb) : eAr e (va_cpy gl fl (0 : Int32).toNatClampNeg (0 : Int32).toNatClampNeg (Int32.ofNat 6).toNatClampNeg) (va_cpy gs fs (0 : Int32).toNatClampNeg (0 : Int32).toNatClampNeg (Int32.ofNat 6).toNatClampNeg) (va_cpy gb fb (0 : Int32).toNatClampNeg (0 : Int32).toNatClampNeg (Int32.ofNat 240).toNatClampNeg) := by
  refine ⟨fun j hj => ?_, fun j hj => ?_, fun j hj i hi => ?_⟩
  · exact (pk_cpy_in (by simp) (by simp; omega)).trans (by simpa using h.1 j hj)
  · rw [pk_cpy_in (by simp) (by simp; omega)]; simpa using h.2.1 j hj
  · have h40 := (h.2.1 j hj).2
    rw [pk_cpy_in (by simp) (by simp; omega)]; simpa using h.2.2 j hj i hi
theorem ex_40 {c : Nat} : nI c * 40 = nI (40 * c) := by rw [show (40 : Int32) = nI 40 from rfl, pk_mul, Nat.mul_comm]
theorem cl_40 : (40 : Int32).toNatClampNeg = 40 := by decide
set_option maxHeartbeats 4000000 in
theorem c_Tags_isTag {E : pmEv} {h : pmH} {z : Option Nat} {x : Int32} : Call E mTags_isTag [.int x] h z 0 0 (Ret (some (.int (bI (0 ≤ x ∧ x < 3)))) (h, z, false)) := by
  refine call_of (L := [some (.int x)]) ok_mTags_isTag (Nat.le_of_ble_eq_true rfl) ?_
  refine go_iload_n dTags_isTag_0 rfl ?_
  refine go_if_lt (tgt := 13) dTags_isTag_1 (fun c1 => ?_) (fun c1 => ?_)
  · refine go_iconst (v := 0) dTags_isTag_13 (by decide) ?_
    refine go_iret dTags_isTag_14 rfl rfl ?_ (Nat.le_of_ble_eq_true rfl) (Nat.le_of_ble_eq_true rfl)
    first | (refine ret_bt ?_; simp_all [i_lt, -Int32.not_lt, -Int32.not_le]; done) | (refine ret_bf ?_; simp_all [i_lt, -Int32.not_lt, -Int32.not_le]; done)
  · refine go_iload_n dTags_isTag_4 rfl ?_
    refine go_iconst (v := 3) dTags_isTag_5 (by decide) ?_
    refine go_icmp_ge (tgt := 13) dTags_isTag_6 (fun c2 => ?_) (fun c2 => ?_)
    · refine go_iconst (v := 0) dTags_isTag_13 (by decide) ?_
      refine go_iret dTags_isTag_14 rfl rfl ?_ (Nat.le_of_ble_eq_true rfl) (Nat.le_of_ble_eq_true rfl)
      first | (refine ret_bt ?_; simp_all [i_lt, -Int32.not_lt, -Int32.not_le]; done) | (refine ret_bf ?_; simp_all [i_lt, -Int32.not_lt, -Int32.not_le]; done)
    · refine go_iconst (v := 1) dTags_isTag_9 (by decide) ?_
      refine go_goto (tgt := 14) dTags_isTag_10 ?_
      refine go_iret dTags_isTag_14 rfl rfl ?_ (Nat.le_of_ble_eq_true rfl) (Nat.le_of_ble_eq_true rfl)
      first | (refine ret_bt ?_; simp_all [i_lt, -Int32.not_lt, -Int32.not_le]; done) | (refine ret_bf ?_; simp_all [i_lt, -Int32.not_lt, -Int32.not_le]; done)
set_option maxHeartbeats 4000000 in
theorem c_Tags_mayBe {E : pmEv} {h : pmH} {z : Option Nat} {x y : Int32} : Call E mTags_mayBe [.int x, .int y] h z 0 0 (Ret (some (.int (bI (tgOk x y)))) (h, z, false)) := by
  refine call_of (L := [some (.int x), some (.int y)]) ok_mTags_mayBe (Nat.le_of_ble_eq_true rfl) ?_
  refine go_iload_n dTags_mayBe_0 rfl ?_
  refine go_iconst (v := 1) dTags_mayBe_1 (by decide) ?_
  refine go_icmp_ne (tgt := 22) dTags_mayBe_2 (fun c1 => ?_) (fun c1 => ?_)
  · refine go_iload_n dTags_mayBe_22 rfl ?_
    refine go_iconst (v := 1) dTags_mayBe_23 (by decide) ?_
    refine go_icmp_lt (tgt := 31) dTags_mayBe_24 (fun c2 => ?_) (fun c2 => ?_)
    · refine go_iconst (v := 0) dTags_mayBe_31 (by decide) ?_
      refine go_iret dTags_mayBe_32 rfl rfl ?_ (Nat.le_of_ble_eq_true rfl) (Nat.le_of_ble_eq_true rfl)
      first | (refine ret_bt ?_; unfold tgOk; grind) | (refine ret_bf ?_; unfold tgOk; grind)
    · refine go_iconst (v := 1) dTags_mayBe_27 (by decide) ?_
      refine go_goto (tgt := 32) dTags_mayBe_28 ?_
      refine go_iret dTags_mayBe_32 rfl rfl ?_ (Nat.le_of_ble_eq_true rfl) (Nat.le_of_ble_eq_true rfl)
      first | (refine ret_bt ?_; unfold tgOk; grind) | (refine ret_bf ?_; unfold tgOk; grind)
  · refine go_iload_n dTags_mayBe_5 rfl ?_
    refine go_if_lt (tgt := 18) dTags_mayBe_6 (fun c3 => ?_) (fun c3 => ?_)
    · refine go_iconst (v := 0) dTags_mayBe_18 (by decide) ?_
      refine go_goto (tgt := 32) dTags_mayBe_19 ?_
      refine go_iret dTags_mayBe_32 rfl rfl ?_ (Nat.le_of_ble_eq_true rfl) (Nat.le_of_ble_eq_true rfl)
      first | (refine ret_bt ?_; unfold tgOk; grind) | (refine ret_bf ?_; unfold tgOk; grind)
    · refine go_iload_n dTags_mayBe_9 rfl ?_
      refine go_iconst (v := 3) dTags_mayBe_10 (by decide) ?_
      refine go_icmp_gt (tgt := 18) dTags_mayBe_11 (fun c4 => ?_) (fun c4 => ?_)
      · refine go_iconst (v := 0) dTags_mayBe_18 (by decide) ?_
        refine go_goto (tgt := 32) dTags_mayBe_19 ?_
        refine go_iret dTags_mayBe_32 rfl rfl ?_ (Nat.le_of_ble_eq_true rfl) (Nat.le_of_ble_eq_true rfl)
        first | (refine ret_bt ?_; unfold tgOk; grind) | (refine ret_bf ?_; unfold tgOk; grind)
      · refine go_iconst (v := 1) dTags_mayBe_14 (by decide) ?_
        refine go_goto (tgt := 32) dTags_mayBe_15 ?_
        refine go_iret dTags_mayBe_32 rfl rfl ?_ (Nat.le_of_ble_eq_true rfl) (Nat.le_of_ble_eq_true rfl)
        first | (refine ret_bt ?_; unfold tgOk; grind) | (refine ret_bf ?_; unfold tgOk; grind)
set_option maxHeartbeats 4000000 in
theorem a_Tags_value {E : pmEv} {h : pmH} {z : Option Nat} {t : Nat} {τ : Nat → Int32} {k : Nat} (hk : k < 3) (hT : TgA h t τ) : Call E mTags_value [.ref t, .int (nI k)] h z 0 0 (Ret (some (.int (τ k))) (h, z, false)) := by
  have h1 := hT.1
  obtain ⟨f, h2, ha⟩ := hT.2
  refine call_of (L := [some (.ref t), some (.int (nI k))]) ok_mTags_value (Nat.le_of_ble_eq_true rfl) ?_
  refine go_iload_n dTags_value_0 rfl ?_
  refine go_statP dTags_value_1 ok_mTags_isTag st_mTags_isTag qm_Tags_25 c_Tags_isTag ?_ (hnp := np_mTags_isTag)
  refine go_ifeq_b (tgt := 16) dTags_value_4 (fun c1 => ?_) (fun c1 => ?_)
  · refine go_iconst (v := -1) dTags_value_16 (by decide) ?_
    refine go_iret dTags_value_17 rfl rfl ?_ (Nat.le_of_ble_eq_true rfl) (Nat.le_of_ble_eq_true rfl)
    exact absurd ((has_n (c := 3) (by omega) (by omega)).mpr hk) c1
  · refine go_aload_n dTags_value_7 rfl ?_
    refine go_getf dTags_value_8 qf_Tags_9 h1 rfl ?_
    refine go_iload_n dTags_value_11 rfl ?_
    refine go_iald dTags_value_12 h2 (by exact vp_in_nI (by omega) (by omega)) (congrArg _ (nI_clamp (by omega))) ?_
    refine go_goto (tgt := 17) dTags_value_13 ?_
    refine go_iret dTags_value_17 rfl rfl ?_ (Nat.le_of_ble_eq_true rfl) (Nat.le_of_ble_eq_true rfl)
    exact ret_e (by rw [ha _ hk])
set_option maxHeartbeats 4000000 in
theorem a_Tags_has {E : pmEv} {h : pmH} {z : Option Nat} {t : Nat} {τ : Nat → Int32} {k : Nat} (hk : k < 3) (hT : TgA h t τ) : Call E mTags_has [.ref t, .int (nI k)] h z 0 0 (Ret (some (.int (bI (¬ τ k = -1)))) (h, z, false)) := by
  have h1 := hT.1
  obtain ⟨f, h2, ha⟩ := hT.2
  refine call_of (L := [some (.ref t), some (.int (nI k))]) ok_mTags_has (Nat.le_of_ble_eq_true rfl) ?_
  refine go_aload_n dTags_has_0 rfl ?_
  refine go_iload_n dTags_has_1 rfl ?_
  refine go_virtP dTags_has_2 ok_mTags_value im_mTags_value se_mTags_value qm_Tags_21 h1 (a_Tags_value hk hT) ?_ (hnp := np_mTags_value)
  refine go_iconst (v := -1) dTags_has_5 (by decide) ?_
  refine go_icmp_eq (tgt := 13) dTags_has_6 (fun c1 => ?_) (fun c1 => ?_)
  · refine go_iconst (v := 0) dTags_has_13 (by decide) ?_
    refine go_iret dTags_has_14 rfl rfl ?_ (Nat.le_of_ble_eq_true rfl) (Nat.le_of_ble_eq_true rfl)
    exact ret_bf (fun q => q c1)
  · refine go_iconst (v := 1) dTags_has_9 (by decide) ?_
    refine go_goto (tgt := 14) dTags_has_10 ?_
    refine go_iret dTags_has_14 rfl rfl ?_ (Nat.le_of_ble_eq_true rfl) (Nat.le_of_ble_eq_true rfl)
    exact ret_bt c1
set_option maxHeartbeats 4000000 in
theorem a_Tags_set {E : pmEv} {h : pmH} {z : Option Nat} {t : Nat} {τ : Nat → Int32} {k : Nat} {x : Int32} (hk : k < 3) (hT : TgA h t τ) : Call E mTags_set [.ref t, .int (nI k), .int x] h z 0 0 (RetX none (fun h' => TgA h' t (upd τ k x) ∧ Sm h h' t 2) z) := by
  have h1 := hT.1
  obtain ⟨f, h2, ha⟩ := hT.2
  refine call_of (L := [some (.ref t), some (.int (nI k)), some (.int x)]) ok_mTags_set (Nat.le_of_ble_eq_true rfl) ?_
  refine go_iload_n dTags_set_0 rfl ?_
  refine go_statP dTags_set_1 ok_mTags_isTag st_mTags_isTag qm_Tags_25 c_Tags_isTag ?_ (hnp := np_mTags_isTag)
  refine go_ifeq_b (tgt := 14) dTags_set_4 (fun c1 => ?_) (fun c1 => ?_)
  · refine go_vret dTags_set_14 rfl ?_ (Nat.le_of_ble_eq_true rfl) (Nat.le_of_ble_eq_true rfl)
    exact absurd ((has_n (c := 3) (by omega) (by omega)).mpr hk) c1
  · refine go_aload_n dTags_set_7 rfl ?_
    refine go_getf dTags_set_8 qf_Tags_9 h1 rfl ?_
    refine go_iload_n dTags_set_11 rfl ?_
    refine go_iload_n dTags_set_12 rfl ?_
    refine go_iast dTags_set_13 h2 (by exact vp_in_nI (by omega) (by omega)) (nI_clamp (by omega)) ?_
    refine go_vret dTags_set_14 rfl ?_ (Nat.le_of_ble_eq_true rfl) (Nat.le_of_ble_eq_true rfl)
    exact retX ⟨⟨((pmU_n _ _ (by omega)).trans h1), _, (pmU_s _ _ _), ha.up _ _⟩, (Sm.put' (Sm.refl _ _ _) _ (by omega) (by omega))⟩
set_option maxHeartbeats 4000000 in
theorem a_Tags_clear {E : pmEv} {h : pmH} {z : Option Nat} {t : Nat} {τ : Nat → Int32} (hT : TgA h t τ) : Call E mTags_clear [.ref t] h z 0 0 (RetX none (fun h' => TgA h' t (fun _ => -1) ∧ Sm h h' t 2) z) := by
  have h1 := hT.1
  obtain ⟨f, h2, ha⟩ := hT.2
  refine call_of (L := [some (.ref t)]) ok_mTags_clear (Nat.le_of_ble_eq_true rfl) ?_
  refine go_aload_n dTags_clear_0 rfl ?_
  refine go_getf dTags_clear_1 qf_Tags_9 h1 rfl ?_
  refine go_iconst (v := -1) dTags_clear_4 (by decide) ?_
  refine go_statX dTags_clear_5 ok_mArrays_fill st_mArrays_fill qm_Tags_15 (a_Arrays_fill (by omega) h2) (fun hx1 d1 q1 => ?_) (hnp := np_mArrays_fill)
  refine go_vret dTags_clear_8 rfl ?_ (Nat.le_of_ble_eq_true rfl) (Nat.le_of_ble_eq_true rfl)
  obtain ⟨⟨g, g1, g2⟩, gs⟩ := q1
  exact retX ⟨⟨(gs _ (by omega)).trans h1, g, g1, g2⟩, gs.sub (by omega) (by omega)⟩
set_option maxHeartbeats 4000000 in
theorem a_Tags_copyFrom {E : pmEv} {h : pmH} {z : Option Nat} {t u : Nat} {τ τ2 : Nat → Int32} (hd : t + 2 ≤ u ∨ u + 2 ≤ t) (hT : TgA h t τ) (hU : TgA h u τ2) : Call E mTags_copyFrom [.ref t, .ref u] h z 0 0 (RetX none (fun h' => TgA h' t τ2 ∧ Sm h h' t 2) z) := by
  have h1 := hT.1
  obtain ⟨f, h2, ha⟩ := hT.2
  have g1 := hU.1
  obtain ⟨g, g2, gb⟩ := hU.2
  refine call_of (L := [some (.ref t), some (.ref u)]) ok_mTags_copyFrom (Nat.le_of_ble_eq_true rfl) ?_
  refine go_aload_n dTags_copyFrom_0 rfl ?_
  refine go_getf dTags_copyFrom_1 qf_Tags_9 g1 rfl ?_
  refine go_iconst (v := 0) dTags_copyFrom_4 (by decide) ?_
  refine go_aload_n dTags_copyFrom_5 rfl ?_
  refine go_getf dTags_copyFrom_6 qf_Tags_9 h1 rfl ?_
  refine go_iconst (v := 0) dTags_copyFrom_9 (by decide) ?_
  refine go_aload_n dTags_copyFrom_10 rfl ?_
  refine go_getf dTags_copyFrom_11 qf_Tags_9 h1 rfl ?_
  refine go_alen dTags_copyFrom_14 h2 rfl ?_
  refine go_copy dTags_copyFrom_15 qp_Tags_29 g2 h2 (by decide) (by decide) (by decide) (by decide) (by decide) ?_
  refine go_vret dTags_copyFrom_18 rfl ?_ (Nat.le_of_ble_eq_true rfl) (Nat.le_of_ble_eq_true rfl)
  exact retX ⟨⟨((pmU_n _ _ (by omega)).trans h1), _, (pmU_s _ _ _), fun i hi => (pk_cpy_in (by simp) (by simp; omega)).trans (by simpa using gb i hi)⟩, (Sm.put' (Sm.refl _ _ _) _ (by omega) (by omega))⟩
set_option maxHeartbeats 4000000 in
theorem a_Extras_clear {E : pmEv} {h : pmH} {z : Option Nat} {x : Nat} {e : aExt} (hX : ExA h x e) : Call E mExtras_clear [.ref x] h z 0 0 (RetX none (fun h' => ExA h' x (e.1, e.2.1, e.2.2.1, 0) ∧ Sm h h' x 4) z) := by
  have h1 := hX.1
  obtain ⟨fl, fs, fb, h2, h3, h4, hE⟩ := hX.2.1
  have hc := hX.2.2
  refine call_of (L := [some (.ref x)]) ok_mExtras_clear (Nat.le_of_ble_eq_true rfl) ?_
  refine go_aload_n dExtras_clear_0 rfl ?_
  refine go_iconst (v := 0) dExtras_clear_1 (by decide) ?_
  refine go_putf dExtras_clear_2 qf_Extras_19 pw_1_3 h1 rfl rfl ?_
  refine go_vret dExtras_clear_5 rfl ?_ (Nat.le_of_ble_eq_true rfl) (Nat.le_of_ble_eq_true rfl)
  exact retX ⟨⟨(pmU_s _ _ _), ⟨_, _, _, ((pmU_n _ _ (by omega)).trans h2), ((pmU_n _ _ (by omega)).trans h3), ((pmU_n _ _ (by omega)).trans h4), eAr_0⟩, by simp⟩, (Sm.put' (Sm.refl _ _ _) _ (by omega) (by omega))⟩
set_option maxHeartbeats 4000000 in
theorem a_Extras_isFull {E : pmEv} {h : pmH} {z : Option Nat} {x : Nat} {e : aExt} (hX : ExA h x e) : Call E mExtras_isFull [.ref x] h z 0 0 (Ret (some (.int (bI (6 ≤ e.2.2.2)))) (h, z, false)) := by
  have h1 := hX.1
  obtain ⟨fl, fs, fb, h2, h3, h4, hE⟩ := hX.2.1
  have hc := hX.2.2
  refine call_of (L := [some (.ref x)]) ok_mExtras_isFull (Nat.le_of_ble_eq_true rfl) ?_
  refine go_aload_n dExtras_isFull_0 rfl ?_
  refine go_getf dExtras_isFull_1 qf_Extras_19 h1 rfl ?_
  refine go_bipush (v := 6) dExtras_isFull_4 (by decide) ?_
  refine go_icmp_lt (tgt := 13) dExtras_isFull_6 (fun c1 => ?_) (fun c1 => ?_)
  · refine go_iconst (v := 0) dExtras_isFull_13 (by decide) ?_
    refine go_iret dExtras_isFull_14 rfl rfl ?_ (Nat.le_of_ble_eq_true rfl) (Nat.le_of_ble_eq_true rfl)
    exact ret_bf (fun q => nI_nlt (b := 6) q (by omega) c1)
  · refine go_iconst (v := 1) dExtras_isFull_9 (by decide) ?_
    refine go_goto (tgt := 14) dExtras_isFull_10 ?_
    refine go_iret dExtras_isFull_14 rfl rfl ?_ (Nat.le_of_ble_eq_true rfl) (Nat.le_of_ble_eq_true rfl)
    exact ret_bt (Nat.not_lt.mp fun q => c1 (nI_lt (b := 6) q (by omega)))
set_option maxHeartbeats 4000000 in
theorem a_Extras_has {E : pmEv} {h : pmH} {z : Option Nat} {x : Nat} {e : aExt} {i : Int32} (hX : ExA h x e) : Call E mExtras_has [.ref x, .int i] h z 0 0 (Ret (some (.int (bI (0 ≤ i ∧ i < nI e.2.2.2)))) (h, z, false)) := by
  have h1 := hX.1
  obtain ⟨fl, fs, fb, h2, h3, h4, hE⟩ := hX.2.1
  have hc := hX.2.2
  refine call_of (L := [some (.ref x), some (.int i)]) ok_mExtras_has (Nat.le_of_ble_eq_true rfl) ?_
  refine go_iload_n dExtras_has_0 rfl ?_
  refine go_if_lt (tgt := 16) dExtras_has_1 (fun c1 => ?_) (fun c1 => ?_)
  · refine go_iconst (v := 0) dExtras_has_16 (by decide) ?_
    refine go_iret dExtras_has_17 rfl rfl ?_ (Nat.le_of_ble_eq_true rfl) (Nat.le_of_ble_eq_true rfl)
    first | exact ret_bf (fun q => absurd q.1 (Int32.not_le.mpr c1)) | exact ret_bf (fun q => absurd q.2 (Int32.not_lt.mpr c2))
  · refine go_iload_n dExtras_has_4 rfl ?_
    refine go_aload_n dExtras_has_5 rfl ?_
    refine go_getf dExtras_has_6 qf_Extras_19 h1 rfl ?_
    refine go_icmp_ge (tgt := 16) dExtras_has_9 (fun c2 => ?_) (fun c2 => ?_)
    · refine go_iconst (v := 0) dExtras_has_16 (by decide) ?_
      refine go_iret dExtras_has_17 rfl rfl ?_ (Nat.le_of_ble_eq_true rfl) (Nat.le_of_ble_eq_true rfl)
      first | exact ret_bf (fun q => absurd q.1 (Int32.not_le.mpr c1)) | exact ret_bf (fun q => absurd q.2 (Int32.not_lt.mpr c2))
    · refine go_iconst (v := 1) dExtras_has_12 (by decide) ?_
      refine go_goto (tgt := 17) dExtras_has_13 ?_
      refine go_iret dExtras_has_17 rfl rfl ?_ (Nat.le_of_ble_eq_true rfl) (Nat.le_of_ble_eq_true rfl)
      exact ret_bt ⟨Int32.not_lt.mp c1, Int32.not_le.mp c2⟩
set_option maxHeartbeats 4000000 in
theorem a_Extras_lettersOf {E : pmEv} {h : pmH} {z : Option Nat} {x : Nat} {e : aExt} {k : Nat} (hk : k < e.2.2.2) (hX : ExA h x e) : Call E mExtras_lettersOf [.ref x, .int (nI k)] h z 0 0 (Ret (some (.int (e.1 k))) (h, z, false)) := by
  have h1 := hX.1
  obtain ⟨fl, fs, fb, h2, h3, h4, hE⟩ := hX.2.1
  have hc := hX.2.2
  refine call_of (L := [some (.ref x), some (.int (nI k))]) ok_mExtras_lettersOf (Nat.le_of_ble_eq_true rfl) ?_
  refine go_aload_n dExtras_lettersOf_0 rfl ?_
  refine go_iload_n dExtras_lettersOf_1 rfl ?_
  refine go_virtP dExtras_lettersOf_2 ok_mExtras_has im_mExtras_has se_mExtras_has qm_Extras_23 h1 (a_Extras_has hX) ?_ (hnp := np_mExtras_has)
  refine go_ifeq_b (tgt := 17) dExtras_lettersOf_5 (fun c1 => ?_) (fun c1 => ?_)
  · refine go_iconst (v := 0) dExtras_lettersOf_17 (by decide) ?_
    refine go_iret dExtras_lettersOf_18 rfl rfl ?_ (Nat.le_of_ble_eq_true rfl) (Nat.le_of_ble_eq_true rfl)
    exact absurd ((has_n (by omega) (by omega)).mpr hk) c1
  · refine go_aload_n dExtras_lettersOf_8 rfl ?_
    refine go_getf dExtras_lettersOf_9 qf_Extras_9 h1 rfl ?_
    refine go_iload_n dExtras_lettersOf_12 rfl ?_
    refine go_iald dExtras_lettersOf_13 h2 (by exact vp_in_nI (by omega) (by omega)) (congrArg _ (nI_clamp (by omega))) ?_
    refine go_goto (tgt := 18) dExtras_lettersOf_14 ?_
    refine go_iret dExtras_lettersOf_18 rfl rfl ?_ (Nat.le_of_ble_eq_true rfl) (Nat.le_of_ble_eq_true rfl)
    exact ret_e (by rw [hE.1 _ hk])
set_option maxHeartbeats 4000000 in
theorem a_Extras_lengthOf {E : pmEv} {h : pmH} {z : Option Nat} {x : Nat} {e : aExt} {k : Nat} (hk : k < e.2.2.2) (hX : ExA h x e) : Call E mExtras_lengthOf [.ref x, .int (nI k)] h z 0 0 (Ret (some (.int (nI (e.2.1 k)))) (h, z, false)) := by
  have h1 := hX.1
  obtain ⟨fl, fs, fb, h2, h3, h4, hE⟩ := hX.2.1
  have hc := hX.2.2
  refine call_of (L := [some (.ref x), some (.int (nI k))]) ok_mExtras_lengthOf (Nat.le_of_ble_eq_true rfl) ?_
  refine go_aload_n dExtras_lengthOf_0 rfl ?_
  refine go_iload_n dExtras_lengthOf_1 rfl ?_
  refine go_virtP dExtras_lengthOf_2 ok_mExtras_has im_mExtras_has se_mExtras_has qm_Extras_23 h1 (a_Extras_has hX) ?_ (hnp := np_mExtras_has)
  refine go_ifeq_b (tgt := 17) dExtras_lengthOf_5 (fun c1 => ?_) (fun c1 => ?_)
  · refine go_iconst (v := 0) dExtras_lengthOf_17 (by decide) ?_
    refine go_iret dExtras_lengthOf_18 rfl rfl ?_ (Nat.le_of_ble_eq_true rfl) (Nat.le_of_ble_eq_true rfl)
    exact absurd ((has_n (by omega) (by omega)).mpr hk) c1
  · refine go_aload_n dExtras_lengthOf_8 rfl ?_
    refine go_getf dExtras_lengthOf_9 qf_Extras_13 h1 rfl ?_
    refine go_iload_n dExtras_lengthOf_12 rfl ?_
    refine go_iald dExtras_lengthOf_13 h3 (by exact vp_in_nI (by omega) (by omega)) (congrArg _ (nI_clamp (by omega))) ?_
    refine go_goto (tgt := 18) dExtras_lengthOf_14 ?_
    refine go_iret dExtras_lengthOf_18 rfl rfl ?_ (Nat.le_of_ble_eq_true rfl) (Nat.le_of_ble_eq_true rfl)
    exact ret_e (by rw [(hE.2.1 _ hk).1])
set_option maxHeartbeats 4000000 in
theorem a_Extras_value {E : pmEv} {h : pmH} {z : Option Nat} {x : Nat} {e : aExt} {k i : Nat} (hk : k < e.2.2.2) (hi : i < e.2.1 k) (hX : ExA h x e) : Call E mExtras_value [.ref x, .int (nI k), .int (nI i)] h z 0 0 (Ret (some (.int (e.2.2.1 (40 * k + i)))) (h, z, false)) := by
  have h1 := hX.1
  obtain ⟨fl, fs, fb, h2, h3, h4, hE⟩ := hX.2.1
  have hc := hX.2.2
  have hz := (hE.2.1 k hk).2
  refine call_of (L := [some (.ref x), some (.int (nI k)), some (.int (nI i))]) ok_mExtras_value (Nat.le_of_ble_eq_true rfl) ?_
  refine go_iload_n dExtras_value_0 rfl ?_
  refine go_if_lt (tgt := 27) dExtras_value_1 (fun c1 => ?_) (fun c1 => ?_)
  · refine go_iconst (v := 0) dExtras_value_27 (by decide) ?_
    refine go_iret dExtras_value_28 rfl rfl ?_ (Nat.le_of_ble_eq_true rfl) (Nat.le_of_ble_eq_true rfl)
    exact absurd c1 (nI_pos (by omega))
  · refine go_iload_n dExtras_value_4 rfl ?_
    refine go_aload_n dExtras_value_5 rfl ?_
    refine go_iload_n dExtras_value_6 rfl ?_
    refine go_virtP dExtras_value_7 ok_mExtras_lengthOf im_mExtras_lengthOf se_mExtras_lengthOf qm_Extras_27 h1 (a_Extras_lengthOf hk hX) ?_ (hnp := np_mExtras_lengthOf)
    refine go_icmp_ge (tgt := 27) dExtras_value_10 (fun c2 => ?_) (fun c2 => ?_)
    · refine go_iconst (v := 0) dExtras_value_27 (by decide) ?_
      refine go_iret dExtras_value_28 rfl rfl ?_ (Nat.le_of_ble_eq_true rfl) (Nat.le_of_ble_eq_true rfl)
      exact absurd c2 (nI_ge hi (by omega))
    · refine go_aload_n dExtras_value_13 rfl ?_
      refine go_getf dExtras_value_14 qf_Extras_16 h1 rfl ?_
      refine go_iload_n dExtras_value_17 rfl ?_
      refine go_bipush (v := 40) dExtras_value_18 (by decide) ?_
      refine go_imul dExtras_value_20 ?_
      refine go_iload_n dExtras_value_21 rfl ?_
      refine go_iadd dExtras_value_22 ?_
      rw [ex_40, nI_add]
      refine go_iald dExtras_value_23 h4 (by exact vp_in_nI (by omega) (by omega)) (congrArg _ (nI_clamp (by omega))) ?_
      refine go_goto (tgt := 28) dExtras_value_24 ?_
      refine go_iret dExtras_value_28 rfl rfl ?_ (Nat.le_of_ble_eq_true rfl) (Nat.le_of_ble_eq_true rfl)
      exact ret_e (by rw [hE.2.2 _ hk _ hi])
set_option maxHeartbeats 4000000 in
theorem a_Extras_add {E : pmEv} {h : pmH} {z : Option Nat} {x : Nat} {e : aExt} {y : Int32} (hl : e.2.2.2 < 6) (hX : ExA h x e) : Call E mExtras_add [.ref x, .int y] h z 0 0 (RetX none (fun h' => ExA h' x (exAdd e y) ∧ Sm h h' x 4) z) := by
  have h1 := hX.1
  obtain ⟨fl, fs, fb, h2, h3, h4, hE⟩ := hX.2.1
  have hc := hX.2.2
  refine call_of (L := [some (.ref x), some (.int y)]) ok_mExtras_add (Nat.le_of_ble_eq_true rfl) ?_
  refine go_aload_n dExtras_add_0 rfl ?_
  refine go_virtP dExtras_add_1 ok_mExtras_isFull im_mExtras_isFull se_mExtras_isFull qm_Extras_31 h1 (a_Extras_isFull hX) ?_ (hnp := np_mExtras_isFull)
  refine go_ifne_b (tgt := 37) dExtras_add_4 (fun c1 => ?_) (fun c1 => ?_)
  · refine go_vret dExtras_add_37 rfl ?_ (Nat.le_of_ble_eq_true rfl) (Nat.le_of_ble_eq_true rfl)
    exact absurd c1 (by omega)
  · refine go_aload_n dExtras_add_7 rfl ?_
    refine go_getf dExtras_add_8 qf_Extras_9 h1 rfl ?_
    refine go_aload_n dExtras_add_11 rfl ?_
    refine go_getf dExtras_add_12 qf_Extras_19 h1 rfl ?_
    refine go_iload_n dExtras_add_15 rfl ?_
    refine go_iast dExtras_add_16 h2 (by exact vp_in_nI (by omega) (by omega)) (nI_clamp (by omega)) ?_
    refine go_aload_n dExtras_add_17 rfl ?_
    refine go_getf dExtras_add_18 qf_Extras_13 ((pmU_n _ _ (by omega)).trans h1) rfl ?_
    refine go_aload_n dExtras_add_21 rfl ?_
    refine go_getf dExtras_add_22 qf_Extras_19 ((pmU_n _ _ (by omega)).trans h1) rfl ?_
    refine go_iconst (v := 0) dExtras_add_25 (by decide) ?_
    refine go_iast dExtras_add_26 ((pmU_n _ _ (by omega)).trans h3) (by exact vp_in_nI (by omega) (by omega)) (nI_clamp (by omega)) ?_
    refine go_aload_n dExtras_add_27 rfl ?_
    refine go_dup dExtras_add_28 rfl ?_
    refine go_getf dExtras_add_29 qf_Extras_19 ((pmU_n _ _ (by omega)).trans ((pmU_n _ _ (by omega)).trans h1)) rfl ?_
    refine go_iconst (v := 1) dExtras_add_32 (by decide) ?_
    refine go_iadd dExtras_add_33 ?_
    refine go_putf dExtras_add_34 qf_Extras_19 pw_1_3 ((pmU_n _ _ (by omega)).trans ((pmU_n _ _ (by omega)).trans h1)) rfl rfl ?_
    refine go_vret dExtras_add_37 rfl ?_ (Nat.le_of_ble_eq_true rfl) (Nat.le_of_ble_eq_true rfl)
    exact retX ⟨⟨by rw [exAdd, nI_succ]; exact (pmU_s _ _ _), ⟨_, _, _, ((pmU_n _ _ (by omega)).trans ((pmU_n _ _ (by omega)).trans (pmU_s _ _ _))), ((pmU_n _ _ (by omega)).trans (pmU_s _ _ _)), ((pmU_n _ _ (by omega)).trans ((pmU_n _ _ (by omega)).trans ((pmU_n _ _ (by omega)).trans h4))), eAr_add hE⟩, hl⟩, (Sm.put' (Sm.put' (Sm.put' (Sm.refl _ _ _) _ (by omega) (by omega)) _ (by omega) (by omega)) _ (by omega) (by omega))⟩
set_option maxHeartbeats 4000000 in
theorem a_Extras_addByte {E : pmEv} {h : pmH} {z : Option Nat} {x : Nat} {e : aExt} {k : Nat} {y : Int32} (hk : k < e.2.2.2) (hl : e.2.1 k < 40) (hX : ExA h x e) : Call E mExtras_addByte [.ref x, .int (nI k), .int y] h z 0 0 (RetX none (fun h' => ExA h' x (exAddB e k y) ∧ Sm h h' x 4) z) := by
  have h1 := hX.1
  obtain ⟨fl, fs, fb, h2, h3, h4, hE⟩ := hX.2.1
  have hc := hX.2.2
  refine call_of (L := [some (.ref x), some (.int (nI k)), some (.int y)]) ok_mExtras_addByte (Nat.le_of_ble_eq_true rfl) ?_
  refine go_aload_n dExtras_addByte_0 rfl ?_
  refine go_iload_n dExtras_addByte_1 rfl ?_
  refine go_virtP dExtras_addByte_2 ok_mExtras_has im_mExtras_has se_mExtras_has qm_Extras_23 h1 (a_Extras_has hX) ?_ (hnp := np_mExtras_has)
  refine go_ifeq_b (tgt := 46) dExtras_addByte_5 (fun c1 => ?_) (fun c1 => ?_)
  · refine go_vret dExtras_addByte_46 rfl ?_ (Nat.le_of_ble_eq_true rfl) (Nat.le_of_ble_eq_true rfl)
    exact absurd ((has_n (by omega) (by omega)).mpr hk) c1
  · refine go_aload_n dExtras_addByte_8 rfl ?_
    refine go_getf dExtras_addByte_9 qf_Extras_13 h1 rfl ?_
    refine go_iload_n dExtras_addByte_12 rfl ?_
    refine go_iald dExtras_addByte_13 h3 (by exact vp_in_nI (by omega) (by omega)) (congrArg _ (nI_clamp (by omega))) ?_
    rw [(hE.2.1 k hk).1]
    refine go_bipush (v := 40) dExtras_addByte_14 (by decide) ?_
    refine go_icmp_ge (tgt := 46) dExtras_addByte_16 (fun c2 => ?_) (fun c2 => ?_)
    · refine go_vret dExtras_addByte_46 rfl ?_ (Nat.le_of_ble_eq_true rfl) (Nat.le_of_ble_eq_true rfl)
      exact absurd c2 (nI_ge (b := 40) hl (by omega))
    · refine go_aload_n dExtras_addByte_19 rfl ?_
      refine go_getf dExtras_addByte_20 qf_Extras_16 h1 rfl ?_
      refine go_iload_n dExtras_addByte_23 rfl ?_
      refine go_bipush (v := 40) dExtras_addByte_24 (by decide) ?_
      refine go_imul dExtras_addByte_26 ?_
      refine go_aload_n dExtras_addByte_27 rfl ?_
      refine go_getf dExtras_addByte_28 qf_Extras_13 h1 rfl ?_
      refine go_iload_n dExtras_addByte_31 rfl ?_
      refine go_iald dExtras_addByte_32 h3 (by exact vp_in_nI (by omega) (by omega)) (congrArg _ (nI_clamp (by omega))) ?_
      rw [ex_40, (hE.2.1 k hk).1]
      refine go_iadd dExtras_addByte_33 ?_
      rw [nI_add]
      refine go_iload_n dExtras_addByte_34 rfl ?_
      refine go_iast dExtras_addByte_35 h4 (by exact vp_in_nI (by omega) (by omega)) (nI_clamp (by omega)) ?_
      refine go_aload_n dExtras_addByte_36 rfl ?_
      refine go_getf dExtras_addByte_37 qf_Extras_13 ((pmU_n _ _ (by omega)).trans h1) rfl ?_
      refine go_iload_n dExtras_addByte_40 rfl ?_
      refine go_dup2 dExtras_addByte_41 rfl rfl ?_
      refine go_iald dExtras_addByte_42 ((pmU_n _ _ (by omega)).trans h3) (by exact vp_in_nI (by omega) (by omega)) (congrArg _ (nI_clamp (by omega))) ?_
      refine go_iconst (v := 1) dExtras_addByte_43 (by decide) ?_
      refine go_iadd dExtras_addByte_44 ?_
      refine go_iast dExtras_addByte_45 ((pmU_n _ _ (by omega)).trans h3) (by exact vp_in_nI (by omega) (by omega)) (nI_clamp (by omega)) ?_
      refine go_vret dExtras_addByte_46 rfl ?_ (Nat.le_of_ble_eq_true rfl) (Nat.le_of_ble_eq_true rfl)
      exact retX ⟨⟨((pmU_n _ _ (by omega)).trans ((pmU_n _ _ (by omega)).trans h1)), ⟨_, _, _, ((pmU_n _ _ (by omega)).trans ((pmU_n _ _ (by omega)).trans h2)), (pmU_s _ _ _), ((pmU_n _ _ (by omega)).trans (pmU_s _ _ _)), eAr_addB hE hk hl (hE.2.1 k hk).1⟩, hc⟩, (Sm.put' (Sm.put' (Sm.refl _ _ _) _ (by omega) (by omega)) _ (by omega) (by omega))⟩
set_option maxHeartbeats 4000000 in
theorem a_Extras_move {E : pmEv} {h : pmH} {z : Option Nat} {x : Nat} {e : aExt} {k t : Nat} (hk : k < e.2.2.2) (ht : t ≤ k) (hX : ExA h x e) : Call E mExtras_move [.ref x, .int (nI k), .int (nI t)] h z 0 0 (RetX none (fun h' => ExA h' x (exMv e k t) ∧ Sm h h' x 4) z) := by
  have h1 := hX.1
  obtain ⟨fl, fs, fb, h2, h3, h4, hE⟩ := hX.2.1
  have hc := hX.2.2
  refine call_of (L := [some (.ref x), some (.int (nI k)), some (.int (nI t))]) ok_mExtras_move (Nat.le_of_ble_eq_true rfl) ?_
  refine go_iload_n dExtras_move_0 rfl ?_
  refine go_iload_n dExtras_move_1 rfl ?_
  refine go_icmp_eq (tgt := 50) dExtras_move_2 (fun c1 => ?_) (fun c1 => ?_)
  · refine go_vret dExtras_move_50 rfl ?_ (Nat.le_of_ble_eq_true rfl) (Nat.le_of_ble_eq_true rfl)
    rw [(nI_inj (by omega) (by omega)).mp c1, exMv_self]
    exact retX ⟨hX, Sm.refl _ _ _⟩
  · refine go_aload_n dExtras_move_5 rfl ?_
    refine go_getf dExtras_move_6 qf_Extras_9 h1 rfl ?_
    refine go_iload_n dExtras_move_9 rfl ?_
    refine go_aload_n dExtras_move_10 rfl ?_
    refine go_getf dExtras_move_11 qf_Extras_9 h1 rfl ?_
    refine go_iload_n dExtras_move_14 rfl ?_
    refine go_iald dExtras_move_15 h2 (by exact vp_in_nI (by omega) (by omega)) (congrArg _ (nI_clamp (by omega))) ?_
    refine go_iast dExtras_move_16 h2 (by exact vp_in_nI (by omega) (by omega)) (nI_clamp (by omega)) ?_
    refine go_aload_n dExtras_move_17 rfl ?_
    refine go_getf dExtras_move_18 qf_Extras_13 ((pmU_n _ _ (by omega)).trans h1) rfl ?_
    refine go_iload_n dExtras_move_21 rfl ?_
    refine go_aload_n dExtras_move_22 rfl ?_
    refine go_getf dExtras_move_23 qf_Extras_13 ((pmU_n _ _ (by omega)).trans h1) rfl ?_
    refine go_iload_n dExtras_move_26 rfl ?_
    refine go_iald dExtras_move_27 ((pmU_n _ _ (by omega)).trans h3) (by exact vp_in_nI (by omega) (by omega)) (congrArg _ (nI_clamp (by omega))) ?_
    refine go_iast dExtras_move_28 ((pmU_n _ _ (by omega)).trans h3) (by exact vp_in_nI (by omega) (by omega)) (nI_clamp (by omega)) ?_
    refine go_aload_n dExtras_move_29 rfl ?_
    refine go_getf dExtras_move_30 qf_Extras_16 ((pmU_n _ _ (by omega)).trans ((pmU_n _ _ (by omega)).trans h1)) rfl ?_
    refine go_iload_n dExtras_move_33 rfl ?_
    refine go_bipush (v := 40) dExtras_move_34 (by decide) ?_
    refine go_imul dExtras_move_36 ?_
    rw [ex_40]
    refine go_aload_n dExtras_move_37 rfl ?_
    refine go_getf dExtras_move_38 qf_Extras_16 ((pmU_n _ _ (by omega)).trans ((pmU_n _ _ (by omega)).trans h1)) rfl ?_
    refine go_iload_n dExtras_move_41 rfl ?_
    refine go_bipush (v := 40) dExtras_move_42 (by decide) ?_
    refine go_imul dExtras_move_44 ?_
    rw [ex_40]
    refine go_bipush (v := 40) dExtras_move_45 (by decide) ?_
    refine go_copy dExtras_move_47 qp_Extras_44 ((pmU_n _ _ (by omega)).trans ((pmU_n _ _ (by omega)).trans h4)) ((pmU_n _ _ (by omega)).trans ((pmU_n _ _ (by omega)).trans h4)) (nI_pos (by omega)) (nI_pos (by omega)) (by decide) (by rw [nI_clamp (by omega), cl_40]; omega) (by rw [nI_clamp (by omega), cl_40]; omega) ?_
    refine go_vret dExtras_move_50 rfl ?_ (Nat.le_of_ble_eq_true rfl) (Nat.le_of_ble_eq_true rfl)
    rw [nI_clamp (n := 40 * k) (by omega), nI_clamp (n := 40 * t) (by omega), cl_40]
    exact retX ⟨⟨((pmU_n _ _ (by omega)).trans ((pmU_n _ _ (by omega)).trans ((pmU_n _ _ (by omega)).trans h1))), ⟨_, _, _, ((pmU_n _ _ (by omega)).trans ((pmU_n _ _ (by omega)).trans (pmU_s _ _ _))), ((pmU_n _ _ (by omega)).trans (pmU_s _ _ _)), (pmU_s _ _ _), eAr_mv hE hk (by omega)⟩, hc⟩, (Sm.put' (Sm.put' (Sm.put' (Sm.refl _ _ _) _ (by omega) (by omega)) _ (by omega) (by omega)) _ (by omega) (by omega))⟩
set_option maxHeartbeats 4000000 in
theorem l_Extras_leave {E : pmEv} {h0 : pmH} {z : Option Nat} {x : Nat} : ∀ (n : Nat) (k : Nat) (t : Nat) (e : aExt) (h : pmH) (d : Bool), k + n = e.2.2.2 → t ≤ k → ExA h x e → Sm h0 h x 4 → Go E (mExtras_leaveOnlySafeOnes, h0, 0, 0) 4 [some (.ref x), some (.int (nI t)), some (.int (nI k))] [] (h, z, d) 0 0 (RetX none (fun h' => ExA h' x (exSafe n k t e) ∧ Sm h0 h' x 4) z) := by
  intro n
  induction n with
  | zero =>
    intro k t e h d hn ht hX hs
    have h1 := hX.1
    obtain ⟨fl, fs, fb, h2, h3, h4, hE⟩ := hX.2.1
    have hc := hX.2.2
    refine go_iload_n dExtras_leaveOnlySafeOnes_4 rfl ?_
    refine go_aload_n dExtras_leaveOnlySafeOnes_5 rfl ?_
    refine go_getf dExtras_leaveOnlySafeOnes_6 qf_Extras_19 h1 rfl ?_
    refine go_icmp_ge (tgt := 39) dExtras_leaveOnlySafeOnes_9 (fun c1 => ?_) (fun c1 => ?_)
    · refine go_aload_n dExtras_leaveOnlySafeOnes_39 rfl ?_
      refine go_iload_n dExtras_leaveOnlySafeOnes_40 rfl ?_
      refine go_putf dExtras_leaveOnlySafeOnes_41 qf_Extras_19 pw_1_3 h1 rfl rfl ?_
      refine go_vret dExtras_leaveOnlySafeOnes_44 rfl ?_ (Nat.le_of_ble_eq_true rfl) (Nat.le_of_ble_eq_true rfl)
      exact retX ⟨⟨(pmU_s _ _ _), ⟨fl, fs, fb, ((pmU_n _ _ (by omega)).trans h2), ((pmU_n _ _ (by omega)).trans h3), ((pmU_n _ _ (by omega)).trans h4), eAr_le hE (by omega)⟩, by simp only [exSafe]; omega⟩, Sm.put' hs _ (by omega) (by omega)⟩
    · exact absurd (nI_le (a := e.2.2.2) (b := k) (by omega) (by omega)) c1
  | succ n ih =>
    intro k t e h d hn ht hX hs
    have h1 := hX.1
    obtain ⟨fl, fs, fb, h2, h3, h4, hE⟩ := hX.2.1
    have hc := hX.2.2
    refine go_iload_n dExtras_leaveOnlySafeOnes_4 rfl ?_
    refine go_aload_n dExtras_leaveOnlySafeOnes_5 rfl ?_
    refine go_getf dExtras_leaveOnlySafeOnes_6 qf_Extras_19 h1 rfl ?_
    refine go_icmp_ge (tgt := 39) dExtras_leaveOnlySafeOnes_9 (fun c1 => ?_) (fun c1 => ?_)
    · exact absurd c1 (nI_ge (a := k) (b := e.2.2.2) (by omega) (by omega))
    · refine go_aload_n dExtras_leaveOnlySafeOnes_12 rfl ?_
      refine go_getf dExtras_leaveOnlySafeOnes_13 qf_Extras_9 h1 rfl ?_
      refine go_iload_n dExtras_leaveOnlySafeOnes_16 rfl ?_
      refine go_iald dExtras_leaveOnlySafeOnes_17 h2 (by exact vp_in_nI (by omega) (by omega)) (congrArg _ (nI_clamp (by omega))) ?_
      refine go_statP dExtras_leaveOnlySafeOnes_18 ok_mLetters_fourthIsGreat st_mLetters_fourthIsGreat qm_Extras_35 c_Letters_fourthIsGreat ?_ (hnp := np_mLetters_fourthIsGreat)
      refine go_ifne_b (tgt := 33) dExtras_leaveOnlySafeOnes_21 (fun c2 => ?_) (fun c2 => ?_)
      · refine go_iinc dExtras_leaveOnlySafeOnes_33 rfl (congrArg (_ + ·) lit1) ?_
        refine go_goto (tgt := 4) dExtras_leaveOnlySafeOnes_36 ?_
        rw [hE.1 _ (by omega)] at c2
        rw [exSafe, if_pos c2]
        have := ih (k + 1) t e h d (by omega) (by omega) hX hs
        rw [nI_succ] at this
        exact this
      · refine go_aload_n dExtras_leaveOnlySafeOnes_24 rfl ?_
        refine go_iload_n dExtras_leaveOnlySafeOnes_25 rfl ?_
        refine go_iload_n dExtras_leaveOnlySafeOnes_26 rfl ?_
        refine go_virtX dExtras_leaveOnlySafeOnes_27 ok_mExtras_move im_mExtras_move se_mExtras_move qm_Extras_40 h1 (a_Extras_move (k := k) (t := t) (by omega) ht hX) (fun hx3 d3 q3 => ?_) (hnp := np_mExtras_move)
        refine go_iinc dExtras_leaveOnlySafeOnes_30 rfl (congrArg (_ + ·) lit1) ?_
        refine go_iinc dExtras_leaveOnlySafeOnes_33 rfl (congrArg (_ + ·) lit1) ?_
        refine go_goto (tgt := 4) dExtras_leaveOnlySafeOnes_36 ?_
        rw [hE.1 _ (by omega)] at c2
        rw [exSafe, if_neg c2]
        have := ih (k + 1) (t + 1) (exMv e k t) hx3 d3 (by simp only [exMv]; omega) (by omega) q3.1 (hs.trans q3.2)
        rw [nI_succ, nI_succ] at this
        exact this
set_option maxHeartbeats 4000000 in
theorem a_Extras_leave {E : pmEv} {h : pmH} {z : Option Nat} {x : Nat} {e : aExt} (hX : ExA h x e) : Call E mExtras_leaveOnlySafeOnes [.ref x] h z 0 0 (RetX none (fun h' => ExA h' x (exSafe e.2.2.2 0 0 e) ∧ Sm h h' x 4) z) := by
  have h1 := hX.1
  refine call_of (L := [some (.ref x), none, none]) ok_mExtras_leaveOnlySafeOnes (Nat.le_of_ble_eq_true rfl) ?_
  refine go_iconst (v := 0) dExtras_leaveOnlySafeOnes_0 (by decide) ?_
  refine go_istore_n dExtras_leaveOnlySafeOnes_1 ?_
  refine go_iconst (v := 0) dExtras_leaveOnlySafeOnes_2 (by decide) ?_
  refine go_istore_n dExtras_leaveOnlySafeOnes_3 ?_
  exact l_Extras_leave e.2.2.2 0 0 e h false (by omega) (by omega) hX (Sm.refl _ _ _)
set_option maxHeartbeats 4000000 in
theorem a_Extras_copyFrom {E : pmEv} {h : pmH} {z : Option Nat} {x y : Nat} {e e2 : aExt} (hd : x + 4 ≤ y ∨ y + 4 ≤ x) (hX : ExA h x e) (hY : ExA h y e2) : Call E mExtras_copyFrom [.ref x, .ref y] h z 0 0 (RetX none (fun h' => ExA h' x e2 ∧ Sm h h' x 4) z) := by
  have h1 := hX.1
  obtain ⟨fl, fs, fb, h2, h3, h4, hE⟩ := hX.2.1
  have hc := hX.2.2
  have g1 := hY.1
  obtain ⟨gl, gs, gb, g2, g3, g4, gE⟩ := hY.2.1
  have hc2 := hY.2.2
  refine call_of (L := [some (.ref x), some (.ref y)]) ok_mExtras_copyFrom (Nat.le_of_ble_eq_true rfl) ?_
  refine go_aload_n dExtras_copyFrom_0 rfl ?_
  refine go_aload_n dExtras_copyFrom_1 rfl ?_
  refine go_getf dExtras_copyFrom_2 qf_Extras_19 g1 rfl ?_
  refine go_putf dExtras_copyFrom_5 qf_Extras_19 pw_1_3 h1 rfl rfl ?_
  refine go_aload_n dExtras_copyFrom_8 rfl ?_
  refine go_getf dExtras_copyFrom_9 qf_Extras_9 ((pmU_n _ _ (by omega)).trans g1) rfl ?_
  refine go_iconst (v := 0) dExtras_copyFrom_12 (by decide) ?_
  refine go_aload_n dExtras_copyFrom_13 rfl ?_
  refine go_getf dExtras_copyFrom_14 qf_Extras_9 (pmU_s _ _ _) rfl ?_
  refine go_iconst (v := 0) dExtras_copyFrom_17 (by decide) ?_
  refine go_aload_n dExtras_copyFrom_18 rfl ?_
  refine go_getf dExtras_copyFrom_19 qf_Extras_9 (pmU_s _ _ _) rfl ?_
  refine go_alen dExtras_copyFrom_22 ((pmU_n _ _ (by omega)).trans h2) rfl ?_
  refine go_copy dExtras_copyFrom_23 qp_Extras_44 ((pmU_n _ _ (by omega)).trans g2) ((pmU_n _ _ (by omega)).trans h2) (by decide) (by decide) (by decide) (by decide) (by decide) ?_
  refine go_aload_n dExtras_copyFrom_26 rfl ?_
  refine go_getf dExtras_copyFrom_27 qf_Extras_13 ((pmU_n _ _ (by omega)).trans ((pmU_n _ _ (by omega)).trans g1)) rfl ?_
  refine go_iconst (v := 0) dExtras_copyFrom_30 (by decide) ?_
  refine go_aload_n dExtras_copyFrom_31 rfl ?_
  refine go_getf dExtras_copyFrom_32 qf_Extras_13 ((pmU_n _ _ (by omega)).trans (pmU_s _ _ _)) rfl ?_
  refine go_iconst (v := 0) dExtras_copyFrom_35 (by decide) ?_
  refine go_aload_n dExtras_copyFrom_36 rfl ?_
  refine go_getf dExtras_copyFrom_37 qf_Extras_13 ((pmU_n _ _ (by omega)).trans (pmU_s _ _ _)) rfl ?_
  refine go_alen dExtras_copyFrom_40 ((pmU_n _ _ (by omega)).trans ((pmU_n _ _ (by omega)).trans h3)) rfl ?_
  refine go_copy dExtras_copyFrom_41 qp_Extras_44 ((pmU_n _ _ (by omega)).trans ((pmU_n _ _ (by omega)).trans g3)) ((pmU_n _ _ (by omega)).trans ((pmU_n _ _ (by omega)).trans h3)) (by decide) (by decide) (by decide) (by decide) (by decide) ?_
  refine go_aload_n dExtras_copyFrom_44 rfl ?_
  refine go_getf dExtras_copyFrom_45 qf_Extras_16 ((pmU_n _ _ (by omega)).trans ((pmU_n _ _ (by omega)).trans ((pmU_n _ _ (by omega)).trans g1))) rfl ?_
  refine go_iconst (v := 0) dExtras_copyFrom_48 (by decide) ?_
  refine go_aload_n dExtras_copyFrom_49 rfl ?_
  refine go_getf dExtras_copyFrom_50 qf_Extras_16 ((pmU_n _ _ (by omega)).trans ((pmU_n _ _ (by omega)).trans (pmU_s _ _ _))) rfl ?_
  refine go_iconst (v := 0) dExtras_copyFrom_53 (by decide) ?_
  refine go_aload_n dExtras_copyFrom_54 rfl ?_
  refine go_getf dExtras_copyFrom_55 qf_Extras_16 ((pmU_n _ _ (by omega)).trans ((pmU_n _ _ (by omega)).trans (pmU_s _ _ _))) rfl ?_
  refine go_alen dExtras_copyFrom_58 ((pmU_n _ _ (by omega)).trans ((pmU_n _ _ (by omega)).trans ((pmU_n _ _ (by omega)).trans h4))) rfl ?_
  refine go_copy dExtras_copyFrom_59 qp_Extras_44 ((pmU_n _ _ (by omega)).trans ((pmU_n _ _ (by omega)).trans ((pmU_n _ _ (by omega)).trans g4))) ((pmU_n _ _ (by omega)).trans ((pmU_n _ _ (by omega)).trans ((pmU_n _ _ (by omega)).trans h4))) (by decide) (by decide) (by decide) (by decide) (by decide) ?_
  refine go_vret dExtras_copyFrom_62 rfl ?_ (Nat.le_of_ble_eq_true rfl) (Nat.le_of_ble_eq_true rfl)
  exact retX ⟨⟨((pmU_n _ _ (by omega)).trans ((pmU_n _ _ (by omega)).trans ((pmU_n _ _ (by omega)).trans (pmU_s _ _ _)))), ⟨_, _, _, ((pmU_n _ _ (by omega)).trans ((pmU_n _ _ (by omega)).trans (pmU_s _ _ _))), ((pmU_n _ _ (by omega)).trans (pmU_s _ _ _)), (pmU_s _ _ _), eAr_cp hc2 gE⟩, hc2⟩, (Sm.put' (Sm.put' (Sm.put' (Sm.put' (Sm.refl _ _ _) _ (by omega) (by omega)) _ (by omega) (by omega)) _ (by omega) (by omega)) _ (by omega) (by omega))⟩
