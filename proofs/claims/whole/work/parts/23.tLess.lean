/-! ===== Lessening (by wip/whole/gen_tLess.py) ===== -/
def All2 (P : Nat → Nat → Prop) (w y x : Nat) : Prop := (∀ y', y' < y → ∀ x', x' < w → P y' x') ∧ ∀ x', x' < x → P y x'
theorem All2.zero {P : Nat → Nat → Prop} {w : Nat} : All2 P w 0 0 := ⟨fun y h => absurd h (Nat.not_lt_zero y), fun x h => absurd h (Nat.not_lt_zero x)⟩
theorem All2.step {P : Nat → Nat → Prop} {w y x : Nat} (h : All2 P w y x) (hp : P y x) : All2 P w y (x + 1) := ⟨h.1, fun x' hx => by
  by_cases e : x' = x
  · subst e; exact hp
  · exact h.2 x' (by omega)⟩
theorem All2.row {P : Nat → Nat → Prop} {w y : Nat} (h : All2 P w y w) : All2 P w (y + 1) 0 := ⟨fun y' hy => by
  by_cases e : y' = y
  · subst e; exact h.2
  · exact h.1 y' (by omega), fun x h => absurd h (Nat.not_lt_zero x)⟩
theorem All2.all {P : Nat → Nat → Prop} {w y : Nat} (h : All2 P w y 0) : ∀ y', y' < y → ∀ x', x' < w → P y' x' := h.1
abbrev opqP (π : aPic) (y x : Nat) : Prop := π.2.1 ((y * 12 + x) * 4 + (chN π.1.2.2.2 - 1)) = 255
abbrev gryP (π : aPic) (y x : Nat) : Prop := π.2.1 ((y * 12 + x) * 4 + 1) = π.2.1 ((y * 12 + x) * 4 + 0) ∧ π.2.1 ((y * 12 + x) * 4 + 2) = π.2.1 ((y * 12 + x) * 4 + 0)
abbrev dvsP (π : aPic) (c : Nat) (y x : Nat) : Prop := π.2.1 ((y * 12 + x) * 4 + 0) - π.2.1 ((y * 12 + x) * 4 + 0) / nI c * nI c = 0
abbrev opq (π : aPic) : Prop := ∀ y, y < π.1.2.1 → ∀ x, x < π.1.1 → opqP π y x
abbrev gry (π : aPic) : Prop := ∀ y, y < π.1.2.1 → ∀ x, x < π.1.1 → gryP π y x
abbrev dvs (π : aPic) (c : Nat) : Prop := ∀ y, y < π.1.2.1 → ∀ x, x < π.1.1 → dvsP π c y x
theorem ch_pred {k : Nat} : nI (chN k) - 1 = nI (chN k - 1) := pk_sub (b := 1) (chN_le k).1
theorem PiA.cg {h : pmH} {p : Nat} {t : Bool} {d : Nat × Nat × Nat × Nat} {s s' : Nat → Int32} {r : aRow × (Nat → Int32) × aExt} (hP : PiA h p t (d, s, r)) (hs : ∀ x, x < d.1 → ∀ y, y < d.2.1 → ∀ u, u < chN d.2.2.2 → s ((y * 12 + x) * 4 + u) = s' ((y * 12 + x) * 4 + u)) : PiA h p t (d, s', r) := ⟨hP.1, hP.2.1, hP.2.2.1, hP.2.2.2.1, hP.2.2.2.2.1.imp fun f q => ⟨q.1, fun x hx y hy u hu => (q.2 x hx y hy u hu).trans (hs x hx y hy u hu)⟩, hP.2.2.2.2.2⟩
def dvI (π : aPic) (c : Nat) (s : Nat → Int32) (y x : Nat) : Prop := ∀ y' x', x' < π.1.1 → s ((y' * 12 + x') * 4 + 0) = if y' < y ∨ y' = y ∧ x' < x then π.2.1 ((y' * 12 + x') * 4 + 0) / nI c else π.2.1 ((y' * 12 + x') * 4 + 0)
theorem dvI.zero {π : aPic} {c : Nat} : dvI π c π.2.1 0 0 := fun y' x' _ => by rw [if_neg (by omega)]
theorem dvI.row {π : aPic} {c : Nat} {s : Nat → Int32} {y : Nat} (h : dvI π c s y π.1.1) : dvI π c s (y + 1) 0 := fun y' x' hx => by
  rw [h y' x' hx]
  by_cases e : y' < y + 1
  · rw [if_pos (by omega), if_pos (by omega)]
  · rw [if_neg (by omega), if_neg (by omega)]
theorem dvI.step {π : aPic} {c : Nat} {s : Nat → Int32} {y x : Nat} (h : dvI π c s y x) (hx : x < π.1.1) (hw : π.1.1 ≤ 12) : dvI π c (upd s ((y * 12 + x) * 4 + 0) (s ((y * 12 + x) * 4 + 0) / nI c)) y (x + 1) := fun y' x' hx' => by
  by_cases e : y' = y ∧ x' = x
  · obtain ⟨rfl, rfl⟩ := e
    rw [pk_us, if_pos (by omega), h y' x' hx, if_neg (by omega)]
  · rw [pk_un (by omega), h y' x' hx']
    by_cases e2 : y' < y ∨ y' = y ∧ x' < x
    · rw [if_pos e2, if_pos (by omega)]
    · rw [if_neg e2, if_neg (by omega)]
theorem dvI.val {π : aPic} {c : Nat} {s : Nat → Int32} (h : dvI π c s π.1.2.1 0) (h3 : chN π.1.2.2.2 = 1) {x y u : Nat} (hx : x < π.1.1) (hy : y < π.1.2.1) (hu : u < chN π.1.2.2.2) : s ((y * 12 + x) * 4 + u) = π.2.1 ((y * 12 + x) * 4 + u) / nI c := by
  obtain rfl : u = 0 := by omega
  rw [h y x hx, if_pos (Or.inl hy)]
def stp (b c : Nat) : Nat := (2 ^ b - 1) / (2 ^ c - 1)
theorem gr_n {n : Nat} (h : n ≤ 8) : gr (nI n) = nI (2 ^ n - 1) := by
  have q : ∀ n : Fin 9, gr (nI n.1) = nI (2 ^ n.1 - 1) := by decide
  exact q ⟨n, by omega⟩
theorem p2_b {b : Nat} (h1 : 1 ≤ b) (h2 : b ≤ 8) : 0 < 2 ^ b - 1 ∧ 2 ^ b - 1 ≤ 255 := by
  have q : ∀ b : Fin 9, 1 ≤ b.1 → 0 < 2 ^ b.1 - 1 ∧ 2 ^ b.1 - 1 ≤ 255 := by decide
  exact q ⟨b, by omega⟩ h1
theorem stp_b {b c : Nat} (hb : 1 ≤ b ∧ b ≤ 8) (hl : c < b) (hc : 1 ≤ c) : 1 ≤ stp b c ∧ stp b c ≤ 255 := by
  have q : ∀ b : Fin 9, ∀ c : Fin 9, c.1 < b.1 → 1 ≤ c.1 → 1 ≤ stp b.1 c.1 ∧ stp b.1 c.1 ≤ 255 := by decide
  exact q ⟨b, by omega⟩ ⟨c, by omega⟩ hl hc
theorem mst_n {c : Nat} (h : c ≤ 8) : mn 64 (gr (nI c) + 1) = nI (min 64 (2 ^ c)) := by
  have q : ∀ c : Fin 9, mn 64 (gr (nI c.1) + 1) = nI (min 64 (2 ^ c.1)) := by decide
  exact q ⟨c, by omega⟩
theorem okN.to2 {d : Nat × Nat × Nat × Nat} (h : okN d) (hk : d.2.2.2 = 6) : okN (d.1, d.2.1, d.2.2.1, 2) := by
  unfold okN at h ⊢
  dsimp only
  omega
theorem okN.to0 {d : Nat × Nat × Nat × Nat} (h : okN d) (hk : d.2.2.2 = 4 ∨ d.2.2.2 = 2) : okN (d.1, d.2.1, d.2.2.1, 0) := by
  unfold okN at h ⊢
  dsimp only
  omega
theorem okN.toB {d : Nat × Nat × Nat × Nat} {c : Nat} (h : okN d) (hk : d.2.2.2 = 0) (hc : c = 1 ∨ c = 2 ∨ c = 4 ∨ c = 8) : okN (d.1, d.2.1, c, 0) := by
  unfold okN at h ⊢
  dsimp only
  omega
theorem okN.toP {d : Nat × Nat × Nat × Nat} {c : Nat} (h : okN d) (hk : d.2.2.2 = 3) (hc : c = 1 ∨ c = 2 ∨ c = 4 ∨ c = 8) : okN (d.1, d.2.1, c, 3) := by
  unfold okN at h ⊢
  dsimp only
  omega
def lsA (π : aPic) : aPic := if π.1.2.2.2 = 6 ∧ opq π then ((π.1.1, π.1.2.1, π.1.2.2.1, 2), π.2) else if π.1.2.2.2 = 4 ∧ opq π then ((π.1.1, π.1.2.1, π.1.2.2.1, 0), π.2) else π
def lsC (π : aPic) : aPic := if π.1.2.2.2 = 2 ∧ gry π then ((π.1.1, π.1.2.1, π.1.2.2.1, 0), π.2) else π
/-- fewer bits for a grey picture: n tries, from c bits on -/
def gB (π : aPic) : Nat → Nat → aPic
  | 0, _ => π
  | n + 1, c => if π.1.2.2.1 ≤ c then π else if dvs π (stp π.1.2.2.1 c) then ((π.1.1, π.1.2.1, c, 0), (fun j => π.2.1 j / nI (stp π.1.2.2.1 c)), π.2.2) else gB π n (2 * c)
def pB (π : aPic) : Nat → Nat → aPic
  | 0, _ => π
  | n + 1, c => if π.1.2.2.1 ≤ c then π else if π.2.2.1.2 ≤ min 64 (2 ^ c) then ((π.1.1, π.1.2.1, c, 3), π.2) else pB π n (2 * c)
def lsM (π : aPic) : aPic := if π.1.2.2.2 = 0 then gB π 3 1 else if π.1.2.2.2 = 3 then pB π 3 1 else π
def lsF (π σ : aPic) : aPic := if σ.1.2.2.2 = π.1.2.2.2 ∧ σ.1.2.2.1 = π.1.2.2.1 then σ else piSafe σ
def lsAll (π : aPic) : aPic := lsF π (lsM (lsC (lsA π)))
set_option maxHeartbeats 4000000 in
theorem l_Less_isOpaque_in {E : pmEv} {h : pmH} {z : Option Nat} {p : Nat} {t : Bool} {π : aPic} (hP : PiA h p t π) {y : Nat} (hy : y < π.1.2.1) : ∀ (n : Nat) (x : Nat), x + n = π.1.1 → All2 (opqP π) π.1.1 y x → (All2 (opqP π) π.1.1 (y + 1) 0 → Go E (mLess_isOpaque, h, 0, 0) 48 [some (.ref p), some (.int (nI (chN π.1.2.2.2 - 1))), some (.int (nI (y))), some (.int (nI (π.1.1)))] [] (h, z, false) 0 0 (Ret (some (.int (bI (∀ y, y < π.1.2.1 → ∀ x, x < π.1.1 → opqP π y x)))) (h, z, false))) → Go E (mLess_isOpaque, h, 0, 0) 19 [some (.ref p), some (.int (nI (chN π.1.2.2.2 - 1))), some (.int (nI (y))), some (.int (nI (x)))] [] (h, z, false) 0 0 (Ret (some (.int (bI (∀ y, y < π.1.2.1 → ∀ x, x < π.1.1 → opqP π y x)))) (h, z, false)) := by
  intro n
  induction n with
  | zero =>
    intro x hx hA hk
    have ho := hP.2.2.2.2.2
    have hwh := ho.w
    have hch := chN_le π.1.2.2.2
    refine go_iload_n dLess_isOpaque_19 rfl ?_
    refine go_aload_n dLess_isOpaque_20 rfl ?_
    refine go_getf dLess_isOpaque_21 qf_Less_81 hP.1 rfl ?_
    refine go_icmp_ge (tgt := 48) dLess_isOpaque_24 (fun c1 => ?_) (fun c1 => ?_)
    · obtain rfl : x = π.1.1 := by omega
      exact hk hA.row
    · exact absurd (nI_le (a := π.1.1) (b := x) (by omega) (by omega)) c1
  | succ n ih =>
    intro x hx hA hk
    have ho := hP.2.2.2.2.2
    have hwh := ho.w
    have hch := chN_le π.1.2.2.2
    refine go_iload_n dLess_isOpaque_19 rfl ?_
    refine go_aload_n dLess_isOpaque_20 rfl ?_
    refine go_getf dLess_isOpaque_21 qf_Less_81 hP.1 rfl ?_
    refine go_icmp_ge (tgt := 48) dLess_isOpaque_24 (fun c1 => ?_) (fun c1 => ?_)
    · exact absurd c1 (nI_ge (a := x) (b := π.1.1) (by omega) (by omega))
    · refine go_aload_n dLess_isOpaque_27 rfl ?_
      refine go_iload_n dLess_isOpaque_28 rfl ?_
      refine go_iload_n dLess_isOpaque_29 rfl ?_
      refine go_iload_n dLess_isOpaque_30 rfl ?_
      refine go_virtP dLess_isOpaque_31 ok_mPicture_sample im_mPicture_sample se_mPicture_sample qm_Less_84 hP.1 (a_Picture_sample (x := x) (y := y) (u := (chN π.1.2.2.2 - 1)) (by omega) hy (by omega) hP) ?_ (hnp := np_mPicture_sample)
      refine go_sipush (v := 255) dLess_isOpaque_34 (by decide) ?_
      refine go_icmp_eq (tgt := 42) dLess_isOpaque_37 (fun c2 => ?_) (fun c2 => ?_)
      · refine go_iinc dLess_isOpaque_42 rfl (congrArg (_ + ·) lit1) ?_
        refine go_goto (tgt := 19) dLess_isOpaque_45 ?_
        exact go_at (ih (x + 1) (by omega) (hA.step c2) hk) rfl (by rw [nI_succ x]; rfl) rfl rfl
      · refine go_iconst (v := 0) dLess_isOpaque_40 (by decide) ?_
        refine go_iret dLess_isOpaque_41 rfl rfl ?_ (Nat.le_of_ble_eq_true rfl) (Nat.le_of_ble_eq_true rfl)
        exact ret_bf (fun q => c2 (q y hy x (by omega)))
set_option maxHeartbeats 4000000 in
theorem l_Less_isOpaque {E : pmEv} {h : pmH} {z : Option Nat} {p : Nat} {t : Bool} {π : aPic} (hP : PiA h p t π) : ∀ (n : Nat) (y : Nat), y + n = π.1.2.1 → All2 (opqP π) π.1.1 y 0 → Go E (mLess_isOpaque, h, 0, 0) 9 [some (.ref p), some (.int (nI (chN π.1.2.2.2 - 1))), some (.int (nI (y))), none] [] (h, z, false) 0 0 (Ret (some (.int (bI (∀ y, y < π.1.2.1 → ∀ x, x < π.1.1 → opqP π y x)))) (h, z, false)) := by
  intro n
  induction n with
  | zero =>
    intro y hy hA
    have ho := hP.2.2.2.2.2
    have hwh := ho.w
    have hch := chN_le π.1.2.2.2
    refine go_iload_n dLess_isOpaque_9 rfl ?_
    refine go_aload_n dLess_isOpaque_10 rfl ?_
    refine go_getf dLess_isOpaque_11 qf_Less_78 hP.1 rfl ?_
    refine go_icmp_ge (tgt := 54) dLess_isOpaque_14 (fun c1 => ?_) (fun c1 => ?_)
    · refine go_iconst (v := 1) dLess_isOpaque_54 (by decide) ?_
      refine go_iret dLess_isOpaque_55 rfl rfl ?_ (Nat.le_of_ble_eq_true rfl) (Nat.le_of_ble_eq_true rfl)
      obtain rfl : y = π.1.2.1 := by omega
      exact ret_bt hA.all
    · exact absurd (nI_le (a := π.1.2.1) (b := y) (by omega) (by omega)) c1
  | succ n ih =>
    intro y hy hA
    have ho := hP.2.2.2.2.2
    have hwh := ho.w
    have hch := chN_le π.1.2.2.2
    refine go_iload_n dLess_isOpaque_9 rfl ?_
    refine go_aload_n dLess_isOpaque_10 rfl ?_
    refine go_getf dLess_isOpaque_11 qf_Less_78 hP.1 rfl ?_
    refine go_icmp_ge (tgt := 54) dLess_isOpaque_14 (fun c1 => ?_) (fun c1 => ?_)
    · exact absurd c1 (nI_ge (a := y) (b := π.1.2.1) (by omega) (by omega))
    · refine go_iconst (v := 0) dLess_isOpaque_17 (by decide) ?_
      refine go_istore_n dLess_isOpaque_18 ?_
      refine l_Less_isOpaque_in  hP (y := y) (by omega) π.1.1 0 (by omega) hA (fun hA2 => ?_)
      refine go_iinc dLess_isOpaque_48 rfl (congrArg (_ + ·) lit1) ?_
      refine go_goto (tgt := 9) dLess_isOpaque_51 ?_
      refine go_fg 3 ?_
      exact go_at (ih (y + 1) (by omega) hA2) rfl (by rw [nI_succ y]; rfl) rfl rfl
set_option maxHeartbeats 4000000 in
theorem a_Less_isOpaque {E : pmEv} {h : pmH} {z : Option Nat} {p : Nat} {t : Bool} {π : aPic} (hP : PiA h p t π) : Call E mLess_isOpaque [.ref p] h z 0 0 (Ret (some (.int (bI (∀ y, y < π.1.2.1 → ∀ x, x < π.1.1 → opqP π y x)))) (h, z, false)) := by
  refine call_of (L := [some (.ref p), none, none, none]) ok_mLess_isOpaque (Nat.le_of_ble_eq_true rfl) ?_
  refine go_aload_n dLess_isOpaque_0 rfl ?_
  refine go_getf dLess_isOpaque_1 qf_Less_75 hP.1 rfl ?_
  refine go_iconst (v := 1) dLess_isOpaque_4 (by decide) ?_
  refine go_isub dLess_isOpaque_5 ?_
  rw [ch_pred]
  refine go_istore_n dLess_isOpaque_6 ?_
  refine go_iconst (v := 0) dLess_isOpaque_7 (by decide) ?_
  refine go_istore_n dLess_isOpaque_8 ?_
  exact l_Less_isOpaque  hP π.1.2.1 0 (by omega) All2.zero
set_option maxHeartbeats 4000000 in
theorem l_Less_isGreyEverywhere_in {E : pmEv} {h : pmH} {z : Option Nat} {p : Nat} {t : Bool} {π : aPic} (h3 : chN π.1.2.2.2 = 3) (hP : PiA h p t π) {y : Nat} (hy : y < π.1.2.1) : ∀ (n : Nat) (x : Nat), x + n = π.1.1 → All2 (gryP π) π.1.1 y x → (All2 (gryP π) π.1.1 (y + 1) 0 → Go E (mLess_isGreyEverywhere, h, 0, 0) 58 [some (.ref p), some (.int (nI (y))), some (.int (nI (π.1.1))), none] [] (h, z, false) 0 0 (Ret (some (.int (bI (∀ y, y < π.1.2.1 → ∀ x, x < π.1.1 → gryP π y x)))) (h, z, false))) → Go E (mLess_isGreyEverywhere, h, 0, 0) 12 [some (.ref p), some (.int (nI (y))), some (.int (nI (x))), none] [] (h, z, false) 0 0 (Ret (some (.int (bI (∀ y, y < π.1.2.1 → ∀ x, x < π.1.1 → gryP π y x)))) (h, z, false)) := by
  intro n
  induction n with
  | zero =>
    intro x hx hA hk
    have ho := hP.2.2.2.2.2
    have hwh := ho.w
    have hch := chN_le π.1.2.2.2
    refine go_iload_n dLess_isGreyEverywhere_12 rfl ?_
    refine go_aload_n dLess_isGreyEverywhere_13 rfl ?_
    refine go_getf dLess_isGreyEverywhere_14 qf_Less_81 hP.1 rfl ?_
    refine go_icmp_ge (tgt := 58) dLess_isGreyEverywhere_17 (fun c1 => ?_) (fun c1 => ?_)
    · obtain rfl : x = π.1.1 := by omega
      exact hk hA.row
    · exact absurd (nI_le (a := π.1.1) (b := x) (by omega) (by omega)) c1
  | succ n ih =>
    intro x hx hA hk
    have ho := hP.2.2.2.2.2
    have hwh := ho.w
    have hch := chN_le π.1.2.2.2
    refine go_iload_n dLess_isGreyEverywhere_12 rfl ?_
    refine go_aload_n dLess_isGreyEverywhere_13 rfl ?_
    refine go_getf dLess_isGreyEverywhere_14 qf_Less_81 hP.1 rfl ?_
    refine go_icmp_ge (tgt := 58) dLess_isGreyEverywhere_17 (fun c1 => ?_) (fun c1 => ?_)
    · exact absurd c1 (nI_ge (a := x) (b := π.1.1) (by omega) (by omega))
    · refine go_aload_n dLess_isGreyEverywhere_20 rfl ?_
      refine go_iload_n dLess_isGreyEverywhere_21 rfl ?_
      refine go_iload_n dLess_isGreyEverywhere_22 rfl ?_
      refine go_iconst (v := 0) dLess_isGreyEverywhere_23 (by decide) ?_
      refine go_virtP dLess_isGreyEverywhere_24 ok_mPicture_sample im_mPicture_sample se_mPicture_sample qm_Less_84 hP.1 (a_Picture_sample (x := x) (y := y) (u := 0) (by omega) hy (by omega) hP) ?_ (hnp := np_mPicture_sample)
      refine go_istore_n dLess_isGreyEverywhere_27 ?_
      refine go_aload_n dLess_isGreyEverywhere_28 rfl ?_
      refine go_iload_n dLess_isGreyEverywhere_29 rfl ?_
      refine go_iload_n dLess_isGreyEverywhere_30 rfl ?_
      refine go_iconst (v := 1) dLess_isGreyEverywhere_31 (by decide) ?_
      refine go_virtP dLess_isGreyEverywhere_32 ok_mPicture_sample im_mPicture_sample se_mPicture_sample qm_Less_84 hP.1 (a_Picture_sample (x := x) (y := y) (u := 1) (by omega) hy (by omega) hP) ?_ (hnp := np_mPicture_sample)
      refine go_iload_n dLess_isGreyEverywhere_35 rfl ?_
      refine go_icmp_ne (tgt := 50) dLess_isGreyEverywhere_36 (fun c2 => ?_) (fun c2 => ?_)
      · refine go_iconst (v := 0) dLess_isGreyEverywhere_50 (by decide) ?_
        refine go_iret dLess_isGreyEverywhere_51 rfl rfl ?_ (Nat.le_of_ble_eq_true rfl) (Nat.le_of_ble_eq_true rfl)
        exact ret_bf (fun q => c2 (q y hy x (by omega)).1)
      · refine go_aload_n dLess_isGreyEverywhere_39 rfl ?_
        refine go_iload_n dLess_isGreyEverywhere_40 rfl ?_
        refine go_iload_n dLess_isGreyEverywhere_41 rfl ?_
        refine go_iconst (v := 2) dLess_isGreyEverywhere_42 (by decide) ?_
        refine go_virtP dLess_isGreyEverywhere_43 ok_mPicture_sample im_mPicture_sample se_mPicture_sample qm_Less_84 hP.1 (a_Picture_sample (x := x) (y := y) (u := 2) (by omega) hy (by omega) hP) ?_ (hnp := np_mPicture_sample)
        refine go_iload_n dLess_isGreyEverywhere_46 rfl ?_
        refine go_icmp_eq (tgt := 52) dLess_isGreyEverywhere_47 (fun c3 => ?_) (fun c3 => ?_)
        · refine go_iinc dLess_isGreyEverywhere_52 rfl (congrArg (_ + ·) lit1) ?_
          refine go_goto (tgt := 12) dLess_isGreyEverywhere_55 ?_
          refine go_fg 3 ?_
          exact go_at (ih (x + 1) (by omega) (hA.step ⟨c2, c3⟩) hk) rfl (by rw [nI_succ x]; rfl) rfl rfl
        · refine go_iconst (v := 0) dLess_isGreyEverywhere_50 (by decide) ?_
          refine go_iret dLess_isGreyEverywhere_51 rfl rfl ?_ (Nat.le_of_ble_eq_true rfl) (Nat.le_of_ble_eq_true rfl)
          exact ret_bf (fun q => c3 (q y hy x (by omega)).2)
set_option maxHeartbeats 4000000 in
theorem l_Less_isGreyEverywhere {E : pmEv} {h : pmH} {z : Option Nat} {p : Nat} {t : Bool} {π : aPic} (h3 : chN π.1.2.2.2 = 3) (hP : PiA h p t π) : ∀ (n : Nat) (y : Nat), y + n = π.1.2.1 → All2 (gryP π) π.1.1 y 0 → Go E (mLess_isGreyEverywhere, h, 0, 0) 2 [some (.ref p), some (.int (nI (y))), none, none] [] (h, z, false) 0 0 (Ret (some (.int (bI (∀ y, y < π.1.2.1 → ∀ x, x < π.1.1 → gryP π y x)))) (h, z, false)) := by
  intro n
  induction n with
  | zero =>
    intro y hy hA
    have ho := hP.2.2.2.2.2
    have hwh := ho.w
    have hch := chN_le π.1.2.2.2
    refine go_iload_n dLess_isGreyEverywhere_2 rfl ?_
    refine go_aload_n dLess_isGreyEverywhere_3 rfl ?_
    refine go_getf dLess_isGreyEverywhere_4 qf_Less_78 hP.1 rfl ?_
    refine go_icmp_ge (tgt := 64) dLess_isGreyEverywhere_7 (fun c1 => ?_) (fun c1 => ?_)
    · refine go_iconst (v := 1) dLess_isGreyEverywhere_64 (by decide) ?_
      refine go_iret dLess_isGreyEverywhere_65 rfl rfl ?_ (Nat.le_of_ble_eq_true rfl) (Nat.le_of_ble_eq_true rfl)
      obtain rfl : y = π.1.2.1 := by omega
      exact ret_bt hA.all
    · exact absurd (nI_le (a := π.1.2.1) (b := y) (by omega) (by omega)) c1
  | succ n ih =>
    intro y hy hA
    have ho := hP.2.2.2.2.2
    have hwh := ho.w
    have hch := chN_le π.1.2.2.2
    refine go_iload_n dLess_isGreyEverywhere_2 rfl ?_
    refine go_aload_n dLess_isGreyEverywhere_3 rfl ?_
    refine go_getf dLess_isGreyEverywhere_4 qf_Less_78 hP.1 rfl ?_
    refine go_icmp_ge (tgt := 64) dLess_isGreyEverywhere_7 (fun c1 => ?_) (fun c1 => ?_)
    · exact absurd c1 (nI_ge (a := y) (b := π.1.2.1) (by omega) (by omega))
    · refine go_iconst (v := 0) dLess_isGreyEverywhere_10 (by decide) ?_
      refine go_istore_n dLess_isGreyEverywhere_11 ?_
      refine l_Less_isGreyEverywhere_in h3 hP (y := y) (by omega) π.1.1 0 (by omega) hA (fun hA2 => ?_)
      refine go_iinc dLess_isGreyEverywhere_58 rfl (congrArg (_ + ·) lit1) ?_
      refine go_goto (tgt := 2) dLess_isGreyEverywhere_61 ?_
      refine go_fg 2 ?_
      exact go_at (ih (y + 1) (by omega) hA2) rfl (by rw [nI_succ y]; rfl) rfl rfl
set_option maxHeartbeats 4000000 in
theorem a_Less_isGreyEverywhere {E : pmEv} {h : pmH} {z : Option Nat} {p : Nat} {t : Bool} {π : aPic} (h3 : chN π.1.2.2.2 = 3) (hP : PiA h p t π) : Call E mLess_isGreyEverywhere [.ref p] h z 0 0 (Ret (some (.int (bI (∀ y, y < π.1.2.1 → ∀ x, x < π.1.1 → gryP π y x)))) (h, z, false)) := by
  refine call_of (L := [some (.ref p), none, none, none]) ok_mLess_isGreyEverywhere (Nat.le_of_ble_eq_true rfl) ?_
  refine go_iconst (v := 0) dLess_isGreyEverywhere_0 (by decide) ?_
  refine go_istore_n dLess_isGreyEverywhere_1 ?_
  exact l_Less_isGreyEverywhere h3 hP π.1.2.1 0 (by omega) All2.zero
set_option maxHeartbeats 4000000 in
theorem l_Less_allAreTimes_in {E : pmEv} {h : pmH} {z : Option Nat} {p : Nat} {t : Bool} {π : aPic} {c : Nat} (h1 : 1 ≤ c) (h2 : c ≤ 255) (hP : PiA h p t π) {y : Nat} (hy : y < π.1.2.1) : ∀ (n : Nat) (x : Nat), x + n = π.1.1 → All2 (dvsP π c) π.1.1 y x → (All2 (dvsP π c) π.1.1 (y + 1) 0 → Go E (mLess_allAreTimes, h, 0, 0) 45 [some (.ref p), some (.int (nI c)), some (.int (nI (y))), some (.int (nI (π.1.1)))] [] (h, z, false) 0 0 (Ret (some (.int (bI (∀ y, y < π.1.2.1 → ∀ x, x < π.1.1 → dvsP π c y x)))) (h, z, false))) → Go E (mLess_allAreTimes, h, 0, 0) 12 [some (.ref p), some (.int (nI c)), some (.int (nI (y))), some (.int (nI (x)))] [] (h, z, false) 0 0 (Ret (some (.int (bI (∀ y, y < π.1.2.1 → ∀ x, x < π.1.1 → dvsP π c y x)))) (h, z, false)) := by
  intro n
  induction n with
  | zero =>
    intro x hx hA hk
    have ho := hP.2.2.2.2.2
    have hwh := ho.w
    have hch := chN_le π.1.2.2.2
    refine go_iload_n dLess_allAreTimes_12 rfl ?_
    refine go_aload_n dLess_allAreTimes_13 rfl ?_
    refine go_getf dLess_allAreTimes_14 qf_Less_81 hP.1 rfl ?_
    refine go_icmp_ge (tgt := 45) dLess_allAreTimes_17 (fun c1 => ?_) (fun c1 => ?_)
    · obtain rfl : x = π.1.1 := by omega
      exact hk hA.row
    · exact absurd (nI_le (a := π.1.1) (b := x) (by omega) (by omega)) c1
  | succ n ih =>
    intro x hx hA hk
    have ho := hP.2.2.2.2.2
    have hwh := ho.w
    have hch := chN_le π.1.2.2.2
    refine go_iload_n dLess_allAreTimes_12 rfl ?_
    refine go_aload_n dLess_allAreTimes_13 rfl ?_
    refine go_getf dLess_allAreTimes_14 qf_Less_81 hP.1 rfl ?_
    refine go_icmp_ge (tgt := 45) dLess_allAreTimes_17 (fun c1 => ?_) (fun c1 => ?_)
    · exact absurd c1 (nI_ge (a := x) (b := π.1.1) (by omega) (by omega))
    · refine go_iload_n dLess_allAreTimes_20 rfl ?_
      refine go_iconst (v := 1) dLess_allAreTimes_21 (by decide) ?_
      refine go_icmp_lt (tgt := 37) dLess_allAreTimes_22 (fun c2 => ?_) (fun c2 => ?_)
      · refine go_iconst (v := 0) dLess_allAreTimes_37 (by decide) ?_
        refine go_iret dLess_allAreTimes_38 rfl rfl ?_ (Nat.le_of_ble_eq_true rfl) (Nat.le_of_ble_eq_true rfl)
        exact absurd c2 (Int32.not_lt.mpr (nI_le (a := 1) (b := c) h1 (by omega)))
      · refine go_aload_n dLess_allAreTimes_25 rfl ?_
        refine go_iload_n dLess_allAreTimes_26 rfl ?_
        refine go_iload_n dLess_allAreTimes_27 rfl ?_
        refine go_iconst (v := 0) dLess_allAreTimes_28 (by decide) ?_
        refine go_virtP dLess_allAreTimes_29 ok_mPicture_sample im_mPicture_sample se_mPicture_sample qm_Less_84 hP.1 (a_Picture_sample (x := x) (y := y) (u := 0) (by omega) hy (by omega) hP) ?_ (hnp := np_mPicture_sample)
        refine go_iload_n dLess_allAreTimes_32 rfl ?_
        refine go_irem dLess_allAreTimes_33 (by exact nI_ne0 (by omega) (by omega)) ?_
        refine go_if_eq (tgt := 39) dLess_allAreTimes_34 (fun c3 => ?_) (fun c3 => ?_)
        · refine go_iinc dLess_allAreTimes_39 rfl (congrArg (_ + ·) lit1) ?_
          refine go_goto (tgt := 12) dLess_allAreTimes_42 ?_
          exact go_at (ih (x + 1) (by omega) (hA.step c3) hk) rfl (by rw [nI_succ x]; rfl) rfl rfl
        · refine go_iconst (v := 0) dLess_allAreTimes_37 (by decide) ?_
          refine go_iret dLess_allAreTimes_38 rfl rfl ?_ (Nat.le_of_ble_eq_true rfl) (Nat.le_of_ble_eq_true rfl)
          exact ret_bf (fun q => c3 (q y hy x (by omega)))
set_option maxHeartbeats 4000000 in
theorem l_Less_allAreTimes {E : pmEv} {h : pmH} {z : Option Nat} {p : Nat} {t : Bool} {π : aPic} {c : Nat} (h1 : 1 ≤ c) (h2 : c ≤ 255) (hP : PiA h p t π) : ∀ (n : Nat) (y : Nat), y + n = π.1.2.1 → All2 (dvsP π c) π.1.1 y 0 → Go E (mLess_allAreTimes, h, 0, 0) 2 [some (.ref p), some (.int (nI c)), some (.int (nI (y))), none] [] (h, z, false) 0 0 (Ret (some (.int (bI (∀ y, y < π.1.2.1 → ∀ x, x < π.1.1 → dvsP π c y x)))) (h, z, false)) := by
  intro n
  induction n with
  | zero =>
    intro y hy hA
    have ho := hP.2.2.2.2.2
    have hwh := ho.w
    have hch := chN_le π.1.2.2.2
    refine go_iload_n dLess_allAreTimes_2 rfl ?_
    refine go_aload_n dLess_allAreTimes_3 rfl ?_
    refine go_getf dLess_allAreTimes_4 qf_Less_78 hP.1 rfl ?_
    refine go_icmp_ge (tgt := 51) dLess_allAreTimes_7 (fun c1 => ?_) (fun c1 => ?_)
    · refine go_iconst (v := 1) dLess_allAreTimes_51 (by decide) ?_
      refine go_iret dLess_allAreTimes_52 rfl rfl ?_ (Nat.le_of_ble_eq_true rfl) (Nat.le_of_ble_eq_true rfl)
      obtain rfl : y = π.1.2.1 := by omega
      exact ret_bt hA.all
    · exact absurd (nI_le (a := π.1.2.1) (b := y) (by omega) (by omega)) c1
  | succ n ih =>
    intro y hy hA
    have ho := hP.2.2.2.2.2
    have hwh := ho.w
    have hch := chN_le π.1.2.2.2
    refine go_iload_n dLess_allAreTimes_2 rfl ?_
    refine go_aload_n dLess_allAreTimes_3 rfl ?_
    refine go_getf dLess_allAreTimes_4 qf_Less_78 hP.1 rfl ?_
    refine go_icmp_ge (tgt := 51) dLess_allAreTimes_7 (fun c1 => ?_) (fun c1 => ?_)
    · exact absurd c1 (nI_ge (a := y) (b := π.1.2.1) (by omega) (by omega))
    · refine go_iconst (v := 0) dLess_allAreTimes_10 (by decide) ?_
      refine go_istore_n dLess_allAreTimes_11 ?_
      refine l_Less_allAreTimes_in h1 h2 hP (y := y) (by omega) π.1.1 0 (by omega) hA (fun hA2 => ?_)
      refine go_iinc dLess_allAreTimes_45 rfl (congrArg (_ + ·) lit1) ?_
      refine go_goto (tgt := 2) dLess_allAreTimes_48 ?_
      refine go_fg 3 ?_
      exact go_at (ih (y + 1) (by omega) hA2) rfl (by rw [nI_succ y]; rfl) rfl rfl
set_option maxHeartbeats 4000000 in
theorem a_Less_allAreTimes {E : pmEv} {h : pmH} {z : Option Nat} {p : Nat} {t : Bool} {π : aPic} {c : Nat} (h1 : 1 ≤ c) (h2 : c ≤ 255) (hP : PiA h p t π) : Call E mLess_allAreTimes [.ref p, .int (nI c)] h z 0 0 (Ret (some (.int (bI (∀ y, y < π.1.2.1 → ∀ x, x < π.1.1 → dvsP π c y x)))) (h, z, false)) := by
  refine call_of (L := [some (.ref p), some (.int (nI c)), none, none]) ok_mLess_allAreTimes (Nat.le_of_ble_eq_true rfl) ?_
  refine go_iconst (v := 0) dLess_allAreTimes_0 (by decide) ?_
  refine go_istore_n dLess_allAreTimes_1 ?_
  exact l_Less_allAreTimes h1 h2 hP π.1.2.1 0 (by omega) All2.zero
set_option maxHeartbeats 4000000 in
theorem l_Less_divideAll_in {E : pmEv} {h0 : pmH} {z : Option Nat} {p : Nat} {t : Bool} {π : aPic} {c : Nat} (h1 : 1 ≤ c) (h2 : c ≤ 255) (ho : okN π.1) (h3 : chN π.1.2.2.2 = 1) {y : Nat} (hy : y < π.1.2.1) : ∀ (n : Nat) (x : Nat) (s : Nat → Int32) (h : pmH) (d : Bool), x + n = π.1.1 → PiA h p t (π.1, s, π.2.2) → Sm h0 h p 10 → dvI π c s y x → (∀ hx dx s', PiA hx p t (π.1, s', π.2.2) → Sm h0 hx p 10 → dvI π c s' (y + 1) 0 → Go E (mLess_divideAll, h0, 0, 0) 46 [some (.ref p), some (.int (nI c)), some (.int (nI (y))), some (.int (nI (π.1.1)))] [] (hx, z, dx) 0 0 (RetX none (fun h' => PiA h' p t (π.1, fun j => π.2.1 j / nI c, π.2.2) ∧ Sm h0 h' p 10) z)) → Go E (mLess_divideAll, h0, 0, 0) 12 [some (.ref p), some (.int (nI c)), some (.int (nI (y))), some (.int (nI (x)))] [] (h, z, d) 0 0 (RetX none (fun h' => PiA h' p t (π.1, fun j => π.2.1 j / nI c, π.2.2) ∧ Sm h0 h' p 10) z) := by
  intro n
  induction n with
  | zero =>
    intro x s h d hx hp hs hI hk
    have hwh := ho.w
    refine go_iload_n dLess_divideAll_12 rfl ?_
    refine go_aload_n dLess_divideAll_13 rfl ?_
    refine go_getf dLess_divideAll_14 qf_Less_81 hp.1 rfl ?_
    refine go_icmp_ge (tgt := 46) dLess_divideAll_17 (fun c1 => ?_) (fun c1 => ?_)
    · obtain rfl : x = π.1.1 := by omega
      exact hk h d s hp hs hI.row
    · exact absurd (nI_le (a := π.1.1) (b := x) (by omega) (by omega)) c1
  | succ n ih =>
    intro x s h d hx hp hs hI hk
    have hwh := ho.w
    refine go_iload_n dLess_divideAll_12 rfl ?_
    refine go_aload_n dLess_divideAll_13 rfl ?_
    refine go_getf dLess_divideAll_14 qf_Less_81 hp.1 rfl ?_
    refine go_icmp_ge (tgt := 46) dLess_divideAll_17 (fun c1 => ?_) (fun c1 => ?_)
    · exact absurd c1 (nI_ge (a := x) (b := π.1.1) (by omega) (by omega))
    · refine go_iload_n dLess_divideAll_20 rfl ?_
      refine go_if_le (tgt := 46) dLess_divideAll_21 (fun c2 => ?_) (fun c2 => ?_)
      · exact absurd c2 (nI_nle (by omega) (by omega))
      · refine go_aload_n dLess_divideAll_24 rfl ?_
        refine go_iload_n dLess_divideAll_25 rfl ?_
        refine go_iload_n dLess_divideAll_26 rfl ?_
        refine go_iconst (v := 0) dLess_divideAll_27 (by decide) ?_
        refine go_aload_n dLess_divideAll_28 rfl ?_
        refine go_iload_n dLess_divideAll_29 rfl ?_
        refine go_iload_n dLess_divideAll_30 rfl ?_
        refine go_iconst (v := 0) dLess_divideAll_31 (by decide) ?_
        refine go_virtP dLess_divideAll_32 ok_mPicture_sample im_mPicture_sample se_mPicture_sample qm_Less_84 hp.1 (a_Picture_sample (π := (π.1, s, π.2.2)) (x := x) (y := y) (u := 0) (show x < π.1.1 by omega) hy (chN_le _).1 hp) ?_ (hnp := np_mPicture_sample)
        refine go_iload_n dLess_divideAll_35 rfl ?_
        refine go_idiv dLess_divideAll_36 (by exact nI_ne0 (by omega) (by omega)) ?_
        refine go_virtX dLess_divideAll_37 ok_mPicture_setSample im_mPicture_setSample se_mPicture_setSample qm_Less_88 hp.1 (a_Picture_setSample (π := (π.1, s, π.2.2)) (x := x) (y := y) (u := 0) (show x < π.1.1 by omega) hy (chN_le _).1 hp) (fun hx3 d3 q3 => ?_) (hnp := np_mPicture_setSample)
        refine go_iinc dLess_divideAll_40 rfl (congrArg (_ + ·) lit1) ?_
        refine go_goto (tgt := 12) dLess_divideAll_43 ?_
        exact go_at (ih (x + 1) _ hx3 d3 (by omega) q3.1 (hs.trans q3.2) (hI.step (by omega) hwh.1) hk) rfl (by rw [nI_succ x]; rfl) rfl rfl
set_option maxHeartbeats 4000000 in
theorem l_Less_divideAll {E : pmEv} {h0 : pmH} {z : Option Nat} {p : Nat} {t : Bool} {π : aPic} {c : Nat} (h1 : 1 ≤ c) (h2 : c ≤ 255) (ho : okN π.1) (h3 : chN π.1.2.2.2 = 1) : ∀ (n : Nat) (y : Nat) (s : Nat → Int32) (h : pmH) (d : Bool), y + n = π.1.2.1 → PiA h p t (π.1, s, π.2.2) → Sm h0 h p 10 → dvI π c s y 0 → Go E (mLess_divideAll, h0, 0, 0) 2 [some (.ref p), some (.int (nI c)), some (.int (nI (y))), none] [] (h, z, d) 0 0 (RetX none (fun h' => PiA h' p t (π.1, fun j => π.2.1 j / nI c, π.2.2) ∧ Sm h0 h' p 10) z) := by
  intro n
  induction n with
  | zero =>
    intro y s h d hy hp hs hI
    have hwh := ho.w
    refine go_iload_n dLess_divideAll_2 rfl ?_
    refine go_aload_n dLess_divideAll_3 rfl ?_
    refine go_getf dLess_divideAll_4 qf_Less_78 hp.1 rfl ?_
    refine go_icmp_ge (tgt := 52) dLess_divideAll_7 (fun c1 => ?_) (fun c1 => ?_)
    · refine go_vret dLess_divideAll_52 rfl ?_ (Nat.le_of_ble_eq_true rfl) (Nat.le_of_ble_eq_true rfl)
      obtain rfl : y = π.1.2.1 := by omega
      exact retX ⟨hp.cg (fun x hx y hy u hu => hI.val h3 hx hy hu), hs⟩
    · exact absurd (nI_le (a := π.1.2.1) (b := y) (by omega) (by omega)) c1
  | succ n ih =>
    intro y s h d hy hp hs hI
    have hwh := ho.w
    refine go_iload_n dLess_divideAll_2 rfl ?_
    refine go_aload_n dLess_divideAll_3 rfl ?_
    refine go_getf dLess_divideAll_4 qf_Less_78 hp.1 rfl ?_
    refine go_icmp_ge (tgt := 52) dLess_divideAll_7 (fun c1 => ?_) (fun c1 => ?_)
    · exact absurd c1 (nI_ge (a := y) (b := π.1.2.1) (by omega) (by omega))
    · refine go_iconst (v := 0) dLess_divideAll_10 (by decide) ?_
      refine go_istore_n dLess_divideAll_11 ?_
      refine l_Less_divideAll_in h1 h2 ho h3 (y := y) (by omega) π.1.1 0 s h d (by omega) hp hs hI (fun hx2 dx2 s2 hp2 hs2 hI2 => ?_)
      refine go_iinc dLess_divideAll_46 rfl (congrArg (_ + ·) lit1) ?_
      refine go_goto (tgt := 2) dLess_divideAll_49 ?_
      refine go_fg 3 ?_
      exact go_at (ih (y + 1) s2 hx2 dx2 (by omega) hp2 hs2 hI2) rfl (by rw [nI_succ y]; rfl) rfl rfl
set_option maxHeartbeats 4000000 in
theorem a_Less_divideAll {E : pmEv} {h : pmH} {z : Option Nat} {p : Nat} {t : Bool} {π : aPic} {c : Nat} (h1 : 1 ≤ c) (h2 : c ≤ 255) (h3 : chN π.1.2.2.2 = 1) (hP : PiA h p t π) : Call E mLess_divideAll [.ref p, .int (nI c)] h z 0 0 (RetX none (fun h' => PiA h' p t (π.1, fun j => π.2.1 j / nI c, π.2.2) ∧ Sm h h' p 10) z) := by
  refine call_of (L := [some (.ref p), some (.int (nI c)), none, none]) ok_mLess_divideAll (Nat.le_of_ble_eq_true rfl) ?_
  refine go_iconst (v := 0) dLess_divideAll_0 (by decide) ?_
  refine go_istore_n dLess_divideAll_1 ?_
  exact l_Less_divideAll h1 h2 hP.2.2.2.2.2 h3 π.1.2.1 0 π.2.1 h false (by omega) hP (Sm.refl _ _ _) dvI.zero
set_option maxHeartbeats 4000000 in
theorem a_Less_lessenAlpha {E : pmEv} {h : pmH} {z : Option Nat} {p : Nat} {t : Bool} {π : aPic} (hP : PiA h p t π) : Call E mLess_lessenAlpha [.ref p] h z 0 0 (RetX none (fun h' => PiA h' p t (lsA π) ∧ Sm h h' p 10) z) := by
  have ho := hP.2.2.2.2.2
  have hkk := ho.k
  have k6 : nI π.1.2.2.2 = 6 ↔ π.1.2.2.2 = 6 := nI_inj (b := 6) (by omega) (by omega)
  have k4 : nI π.1.2.2.2 = 4 ↔ π.1.2.2.2 = 4 := nI_inj (b := 4) (by omega) (by omega)
  refine call_of (L := [some (.ref p)]) ok_mLess_lessenAlpha (Nat.le_of_ble_eq_true rfl) ?_
  refine go_aload_n dLess_lessenAlpha_0 rfl ?_
  refine go_getf dLess_lessenAlpha_1 qf_Less_7 hP.1 rfl ?_
  refine go_bipush (v := 6) dLess_lessenAlpha_4 (by decide) ?_
  refine go_icmp_ne (tgt := 28) dLess_lessenAlpha_6 (fun c1 => ?_) (fun c1 => ?_)
  · refine go_aload_n dLess_lessenAlpha_28 rfl ?_
    refine go_getf dLess_lessenAlpha_29 qf_Less_7 hP.1 rfl ?_
    refine go_iconst (v := 4) dLess_lessenAlpha_32 (by decide) ?_
    refine go_icmp_ne (tgt := 52) dLess_lessenAlpha_33 (fun c2 => ?_) (fun c2 => ?_)
    · refine go_vret dLess_lessenAlpha_52 rfl ?_ (Nat.le_of_ble_eq_true rfl) (Nat.le_of_ble_eq_true rfl)
      exact retX (by rw [lsA, if_neg (fun q => c1 (k6.mpr q.1)), if_neg (fun q => c2 (k4.mpr q.1))]; exact ⟨hP, Sm.refl _ _ _⟩)
    · refine go_aload_n dLess_lessenAlpha_36 rfl ?_
      refine go_statP dLess_lessenAlpha_37 ok_mLess_isOpaque st_mLess_isOpaque qm_Less_36 (a_Less_isOpaque hP) ?_ (hnp := np_mLess_isOpaque)
      refine go_ifeq_b (tgt := 52) dLess_lessenAlpha_40 (fun c3 => ?_) (fun c3 => ?_)
      · refine go_vret dLess_lessenAlpha_52 rfl ?_ (Nat.le_of_ble_eq_true rfl) (Nat.le_of_ble_eq_true rfl)
        exact retX (by rw [lsA, if_neg (fun q => c1 (k6.mpr q.1)), if_neg (fun q => c3 q.2)]; exact ⟨hP, Sm.refl _ _ _⟩)
      · refine go_aload_n dLess_lessenAlpha_43 rfl ?_
        refine go_iconst (v := 0) dLess_lessenAlpha_44 (by decide) ?_
        refine go_aload_n dLess_lessenAlpha_45 rfl ?_
        refine go_getf dLess_lessenAlpha_46 qf_Less_13 hP.1 rfl ?_
        refine go_virtX dLess_lessenAlpha_49 ok_mPicture_become im_mPicture_become se_mPicture_become qm_Less_40 hP.1 (a_Picture_become (k := 0) (b := π.1.2.2.1) (chN_le _).1 (ho.to0 (Or.inl (k4.mp c2))) hP) (fun hx4 d4 q4 => ?_) (hnp := np_mPicture_become)
        refine go_vret dLess_lessenAlpha_52 rfl ?_ (Nat.le_of_ble_eq_true rfl) (Nat.le_of_ble_eq_true rfl)
        exact retX (by rw [lsA, if_neg (fun q => c1 (k6.mpr q.1)), if_pos ⟨k4.mp c2, c3⟩]; exact q4)
  · refine go_aload_n dLess_lessenAlpha_9 rfl ?_
    refine go_statP dLess_lessenAlpha_10 ok_mLess_isOpaque st_mLess_isOpaque qm_Less_36 (a_Less_isOpaque hP) ?_ (hnp := np_mLess_isOpaque)
    refine go_ifeq_b (tgt := 28) dLess_lessenAlpha_13 (fun c2 => ?_) (fun c2 => ?_)
    · refine go_aload_n dLess_lessenAlpha_28 rfl ?_
      refine go_getf dLess_lessenAlpha_29 qf_Less_7 hP.1 rfl ?_
      refine go_iconst (v := 4) dLess_lessenAlpha_32 (by decide) ?_
      refine go_icmp_ne (tgt := 52) dLess_lessenAlpha_33 (fun c3 => ?_) (fun c3 => ?_)
      · refine go_vret dLess_lessenAlpha_52 rfl ?_ (Nat.le_of_ble_eq_true rfl) (Nat.le_of_ble_eq_true rfl)
        exact retX (by rw [lsA, if_neg (fun q => c2 q.2), if_neg (fun q => c3 (k4.mpr q.1))]; exact ⟨hP, Sm.refl _ _ _⟩)
      · refine go_aload_n dLess_lessenAlpha_36 rfl ?_
        refine go_statP dLess_lessenAlpha_37 ok_mLess_isOpaque st_mLess_isOpaque qm_Less_36 (a_Less_isOpaque hP) ?_ (hnp := np_mLess_isOpaque)
        refine go_ifeq_b (tgt := 52) dLess_lessenAlpha_40 (fun c4 => ?_) (fun c4 => ?_)
        · refine go_vret dLess_lessenAlpha_52 rfl ?_ (Nat.le_of_ble_eq_true rfl) (Nat.le_of_ble_eq_true rfl)
          exact absurd ((k6.mp c1).symm.trans (k4.mp c3)) (by decide)
        · refine go_aload_n dLess_lessenAlpha_43 rfl ?_
          refine go_iconst (v := 0) dLess_lessenAlpha_44 (by decide) ?_
          refine go_aload_n dLess_lessenAlpha_45 rfl ?_
          refine go_getf dLess_lessenAlpha_46 qf_Less_13 hP.1 rfl ?_
          refine go_virtX dLess_lessenAlpha_49 ok_mPicture_become im_mPicture_become se_mPicture_become qm_Less_40 hP.1 (a_Picture_become (k := 0) (b := π.1.2.2.1) (absurd ((k6.mp c1).symm.trans (k4.mp c3)) (by decide)) (absurd ((k6.mp c1).symm.trans (k4.mp c3)) (by decide)) hP) (fun hx5 d5 q5 => ?_) (hnp := np_mPicture_become)
          refine go_vret dLess_lessenAlpha_52 rfl ?_ (Nat.le_of_ble_eq_true rfl) (Nat.le_of_ble_eq_true rfl)
          exact absurd ((k6.mp c1).symm.trans (k4.mp c3)) (by decide)
    · refine go_aload_n dLess_lessenAlpha_16 rfl ?_
      refine go_iconst (v := 2) dLess_lessenAlpha_17 (by decide) ?_
      refine go_aload_n dLess_lessenAlpha_18 rfl ?_
      refine go_getf dLess_lessenAlpha_19 qf_Less_13 hP.1 rfl ?_
      refine go_virtX dLess_lessenAlpha_22 ok_mPicture_become im_mPicture_become se_mPicture_become qm_Less_40 hP.1 (a_Picture_become (k := 2) (b := π.1.2.2.1) (by rw [k6.mp c1]; decide) (ho.to2 (k6.mp c1)) hP) (fun hx3 d3 q3 => ?_) (hnp := np_mPicture_become)
      refine go_goto (tgt := 52) dLess_lessenAlpha_25 ?_
      refine go_vret dLess_lessenAlpha_52 rfl ?_ (Nat.le_of_ble_eq_true rfl) (Nat.le_of_ble_eq_true rfl)
      exact retX (by rw [lsA, if_pos ⟨k6.mp c1, c2⟩]; exact q3)
set_option maxHeartbeats 4000000 in
theorem a_Less_lessenColours {E : pmEv} {h : pmH} {z : Option Nat} {p : Nat} {t : Bool} {π : aPic} (hP : PiA h p t π) : Call E mLess_lessenColours [.ref p] h z 0 0 (RetX none (fun h' => PiA h' p t (lsC π) ∧ Sm h h' p 10) z) := by
  have ho := hP.2.2.2.2.2
  have hkk := ho.k
  have k2 : nI π.1.2.2.2 = 2 ↔ π.1.2.2.2 = 2 := nI_inj (b := 2) (by omega) (by omega)
  refine call_of (L := [some (.ref p)]) ok_mLess_lessenColours (Nat.le_of_ble_eq_true rfl) ?_
  refine go_aload_n dLess_lessenColours_0 rfl ?_
  refine go_getf dLess_lessenColours_1 qf_Less_7 hP.1 rfl ?_
  refine go_iconst (v := 2) dLess_lessenColours_4 (by decide) ?_
  refine go_icmp_ne (tgt := 24) dLess_lessenColours_5 (fun c1 => ?_) (fun c1 => ?_)
  · refine go_vret dLess_lessenColours_24 rfl ?_ (Nat.le_of_ble_eq_true rfl) (Nat.le_of_ble_eq_true rfl)
    exact retX (by rw [lsC, if_neg (fun q => c1 (k2.mpr q.1))]; exact ⟨hP, Sm.refl _ _ _⟩)
  · refine go_aload_n dLess_lessenColours_8 rfl ?_
    refine go_statP dLess_lessenColours_9 ok_mLess_isGreyEverywhere st_mLess_isGreyEverywhere qm_Less_44 (a_Less_isGreyEverywhere (by rw [k2.mp c1]; rfl) hP) ?_ (hnp := np_mLess_isGreyEverywhere)
    refine go_ifeq_b (tgt := 24) dLess_lessenColours_12 (fun c2 => ?_) (fun c2 => ?_)
    · refine go_vret dLess_lessenColours_24 rfl ?_ (Nat.le_of_ble_eq_true rfl) (Nat.le_of_ble_eq_true rfl)
      exact retX (by rw [lsC, if_neg (fun q => c2 q.2)]; exact ⟨hP, Sm.refl _ _ _⟩)
    · refine go_aload_n dLess_lessenColours_15 rfl ?_
      refine go_iconst (v := 0) dLess_lessenColours_16 (by decide) ?_
      refine go_aload_n dLess_lessenColours_17 rfl ?_
      refine go_getf dLess_lessenColours_18 qf_Less_13 hP.1 rfl ?_
      refine go_virtX dLess_lessenColours_21 ok_mPicture_become im_mPicture_become se_mPicture_become qm_Less_40 hP.1 (a_Picture_become (k := 0) (b := π.1.2.2.1) (chN_le _).1 (ho.to0 (Or.inr (k2.mp c1))) hP) (fun hx3 d3 q3 => ?_) (hnp := np_mPicture_become)
      refine go_vret dLess_lessenColours_24 rfl ?_ (Nat.le_of_ble_eq_true rfl) (Nat.le_of_ble_eq_true rfl)
      exact retX (by rw [lsC, if_pos ⟨k2.mp c1, c2⟩]; exact q3)
set_option maxHeartbeats 4000000 in
theorem a_Less_stepOf {E : pmEv} {h : pmH} {z : Option Nat} {b c : Nat} (hb : 1 ≤ b ∧ b ≤ 8) (hc : 1 ≤ c ∧ c ≤ 8) : Call E mLess_stepOf [.int (nI b), .int (nI c)] h z 0 0 (Ret (some (.int (nI (stp b c)))) (h, z, false)) := by
  refine call_of (L := [some (.int (nI b)), some (.int (nI c)), none]) ok_mLess_stepOf (Nat.le_of_ble_eq_true rfl) ?_
  refine go_iload_n dLess_stepOf_0 rfl ?_
  refine go_statP dLess_stepOf_1 ok_mShape_greatest st_mShape_greatest qm_Less_59 c_Shape_greatest ?_ (hnp := np_mShape_greatest)
  rw [gr_n (n := c) hc.2]
  refine go_istore_n dLess_stepOf_4 ?_
  refine go_iload_n dLess_stepOf_5 rfl ?_
  refine go_if_le (tgt := 18) dLess_stepOf_6 (fun c1 => ?_) (fun c1 => ?_)
  · refine go_iconst (v := 0) dLess_stepOf_18 (by decide) ?_
    refine go_iret dLess_stepOf_19 rfl rfl ?_ (Nat.le_of_ble_eq_true rfl) (Nat.le_of_ble_eq_true rfl)
    exact absurd c1 (Int32.not_le.mpr (nI_lt (a := 0) (p2_b hc.1 hc.2).1 (Nat.lt_of_le_of_lt (p2_b hc.1 hc.2).2 (by decide))))
  · refine go_iload_n dLess_stepOf_9 rfl ?_
    refine go_statP dLess_stepOf_10 ok_mShape_greatest st_mShape_greatest qm_Less_59 c_Shape_greatest ?_ (hnp := np_mShape_greatest)
    rw [gr_n (n := b) hb.2]
    refine go_iload_n dLess_stepOf_13 rfl ?_
    refine go_idiv dLess_stepOf_14 (by exact nI_ne0 (p2_b hc.1 hc.2).1 (Nat.lt_of_le_of_lt (p2_b hc.1 hc.2).2 (by decide))) ?_
    rw [pk_div (Nat.lt_of_le_of_lt (p2_b hb.1 hb.2).2 (by decide)) (p2_b hc.1 hc.2).1 (Nat.lt_of_le_of_lt (p2_b hc.1 hc.2).2 (by decide))]
    refine go_goto (tgt := 19) dLess_stepOf_15 ?_
    refine go_iret dLess_stepOf_19 rfl rfl ?_ (Nat.le_of_ble_eq_true rfl) (Nat.le_of_ble_eq_true rfl)
    exact ret_v
set_option maxHeartbeats 4000000 in
theorem l_Less_greyBits {E : pmEv} {h : pmH} {z : Option Nat} {p : Nat} {t : Bool} {π : aPic} (h0 : π.1.2.2.2 = 0) (hP : PiA h p t π) : ∀ (n : Nat) (c : Nat), c = 1 ∨ c = 2 ∨ c = 4 ∨ c = 8 → π.1.2.2.1 ≤ c * 2 ^ n → Go E (mLess_lessenGreyBits, h, 0, 0) 2 [some (.ref p), some (.int (nI c)), none] [] (h, z, false) 0 0 (RetX none (fun h' => PiA h' p t (gB π n c) ∧ Sm h h' p 10) z) := by
  intro n
  induction n with
  | zero =>
    intro c hc hn
    have ho := hP.2.2.2.2.2
    have hb := ho.b
    refine go_iload_n dLess_lessenGreyBits_2 rfl ?_
    refine go_aload_n dLess_lessenGreyBits_3 rfl ?_
    refine go_getf dLess_lessenGreyBits_4 qf_Less_13 hP.1 rfl ?_
    refine go_icmp_ge (tgt := 46) dLess_lessenGreyBits_7 (fun c1 => ?_) (fun c1 => ?_)
    · refine go_vret dLess_lessenGreyBits_46 rfl ?_ (Nat.le_of_ble_eq_true rfl) (Nat.le_of_ble_eq_true rfl)
      exact retX ⟨hP, Sm.refl _ _ _⟩
    · exact absurd (nI_le (a := π.1.2.2.1) (b := c) (by omega) (by omega)) c1
  | succ n ih =>
    intro c hc hn
    have ho := hP.2.2.2.2.2
    have hb := ho.b
    refine go_iload_n dLess_lessenGreyBits_2 rfl ?_
    refine go_aload_n dLess_lessenGreyBits_3 rfl ?_
    refine go_getf dLess_lessenGreyBits_4 qf_Less_13 hP.1 rfl ?_
    refine go_icmp_ge (tgt := 46) dLess_lessenGreyBits_7 (fun c1 => ?_) (fun c1 => ?_)
    · refine go_vret dLess_lessenGreyBits_46 rfl ?_ (Nat.le_of_ble_eq_true rfl) (Nat.le_of_ble_eq_true rfl)
      exact retX (by rw [gB, if_pos ((nI_leI (by omega) (by omega)).mp c1)]; exact ⟨hP, Sm.refl _ _ _⟩)
    · have hl : c < π.1.2.2.1 := Nat.not_le.mp fun q => c1 (nI_le q (by omega))
      have hcc : 1 ≤ c ∧ c ≤ 8 := by omega
      refine go_aload_n dLess_lessenGreyBits_10 rfl ?_
      refine go_getf dLess_lessenGreyBits_11 qf_Less_13 hP.1 rfl ?_
      refine go_iload_n dLess_lessenGreyBits_14 rfl ?_
      refine go_statP dLess_lessenGreyBits_15 ok_mLess_stepOf st_mLess_stepOf qm_Less_47 (a_Less_stepOf hb hcc) ?_ (hnp := np_mLess_stepOf)
      refine go_istore_n dLess_lessenGreyBits_18 ?_
      refine go_aload_n dLess_lessenGreyBits_19 rfl ?_
      refine go_iload_n dLess_lessenGreyBits_20 rfl ?_
      refine go_statP dLess_lessenGreyBits_21 ok_mLess_allAreTimes st_mLess_allAreTimes qm_Less_51 (a_Less_allAreTimes (stp_b hb hl hcc.1).1 (stp_b hb hl hcc.1).2 hP) ?_ (hnp := np_mLess_allAreTimes)
      refine go_ifeq_b (tgt := 39) dLess_lessenGreyBits_24 (fun c2 => ?_) (fun c2 => ?_)
      · refine go_iconst (v := 2) dLess_lessenGreyBits_39 (by decide) ?_
        refine go_iload_n dLess_lessenGreyBits_40 rfl ?_
        refine go_imul dLess_lessenGreyBits_41 ?_
        refine go_istore_n dLess_lessenGreyBits_42 ?_
        refine go_goto (tgt := 2) dLess_lessenGreyBits_43 ?_
        refine go_fg 2 ?_
        exact (go_at (ih (2 * c) (by omega) (by rw [Nat.pow_succ] at hn; rw [Nat.mul_comm 2 c, Nat.mul_assoc, Nat.mul_comm 2]; exact hn)) rfl (by rw [← pk_mul 2 c]; rfl) rfl rfl).mono fun o S q => by rw [gB, if_neg (Nat.not_le.mpr hl), if_neg c2]; exact q
      · refine go_aload_n dLess_lessenGreyBits_27 rfl ?_
        refine go_iload_n dLess_lessenGreyBits_28 rfl ?_
        refine go_statX dLess_lessenGreyBits_29 ok_mLess_divideAll st_mLess_divideAll qm_Less_55 (a_Less_divideAll (stp_b hb hl hcc.1).1 (stp_b hb hl hcc.1).2 (by rw [h0]; rfl) hP) (fun hx3 d3 q3 => ?_) (hnp := np_mLess_divideAll)
        refine go_aload_n dLess_lessenGreyBits_32 rfl ?_
        refine go_iconst (v := 0) dLess_lessenGreyBits_33 (by decide) ?_
        refine go_iload_n dLess_lessenGreyBits_34 rfl ?_
        refine go_virtX dLess_lessenGreyBits_35 ok_mPicture_become im_mPicture_become se_mPicture_become qm_Less_40 q3.1.1 (a_Picture_become (π := (π.1, (fun j => π.2.1 j / nI (stp π.1.2.2.1 c)), π.2.2)) (k := 0) (b := c) (chN_le _).1 (ho.toB h0 hc) q3.1) (fun hx4 d4 q4 => ?_) (hnp := np_mPicture_become)
        refine go_vret dLess_lessenGreyBits_38 rfl ?_ (Nat.le_of_ble_eq_true rfl) (Nat.le_of_ble_eq_true rfl)
        exact retX (by rw [gB, if_neg (fun q => c1 (nI_le q (by omega))), if_pos c2]; exact ⟨q4.1, q3.2.trans q4.2⟩)
set_option maxHeartbeats 4000000 in
theorem a_Less_lessenGreyBits {E : pmEv} {h : pmH} {z : Option Nat} {p : Nat} {t : Bool} {π : aPic} (h0 : π.1.2.2.2 = 0) (hP : PiA h p t π) : Call E mLess_lessenGreyBits [.ref p] h z 0 0 (RetX none (fun h' => PiA h' p t (gB π 3 1) ∧ Sm h h' p 10) z) := by
  refine call_of (L := [some (.ref p), none, none]) ok_mLess_lessenGreyBits (Nat.le_of_ble_eq_true rfl) ?_
  refine go_iconst (v := 1) dLess_lessenGreyBits_0 (by decide) ?_
  refine go_istore_n dLess_lessenGreyBits_1 ?_
  exact l_Less_greyBits h0 hP 3 1 (Or.inl rfl) (by have := hP.2.2.2.2.2.b; omega)
set_option maxHeartbeats 4000000 in
theorem l_Less_paletteBits {E : pmEv} {h : pmH} {z : Option Nat} {p : Nat} {t : Bool} {π : aPic} (h0 : π.1.2.2.2 = 3) (hP : PiA h p t π) : ∀ (n : Nat) (c : Nat), c = 1 ∨ c = 2 ∨ c = 4 ∨ c = 8 → π.1.2.2.1 ≤ c * 2 ^ n → Go E (mLess_lessenPaletteBits, h, 0, 0) 2 [some (.ref p), some (.int (nI c))] [] (h, z, false) 0 0 (RetX none (fun h' => PiA h' p t (pB π n c) ∧ Sm h h' p 10) z) := by
  intro n
  induction n with
  | zero =>
    intro c hc hn
    have ho := hP.2.2.2.2.2
    have hb := ho.b
    have hpc := hP.2.1.2.2
    refine go_iload_n dLess_lessenPaletteBits_2 rfl ?_
    refine go_aload_n dLess_lessenPaletteBits_3 rfl ?_
    refine go_getf dLess_lessenPaletteBits_4 qf_Less_13 hP.1 rfl ?_
    refine go_icmp_ge (tgt := 38) dLess_lessenPaletteBits_7 (fun c1 => ?_) (fun c1 => ?_)
    · refine go_vret dLess_lessenPaletteBits_38 rfl ?_ (Nat.le_of_ble_eq_true rfl) (Nat.le_of_ble_eq_true rfl)
      exact retX ⟨hP, Sm.refl _ _ _⟩
    · exact absurd (nI_le (a := π.1.2.2.1) (b := c) (by omega) (by omega)) c1
  | succ n ih =>
    intro c hc hn
    have ho := hP.2.2.2.2.2
    have hb := ho.b
    have hpc := hP.2.1.2.2
    refine go_iload_n dLess_lessenPaletteBits_2 rfl ?_
    refine go_aload_n dLess_lessenPaletteBits_3 rfl ?_
    refine go_getf dLess_lessenPaletteBits_4 qf_Less_13 hP.1 rfl ?_
    refine go_icmp_ge (tgt := 38) dLess_lessenPaletteBits_7 (fun c1 => ?_) (fun c1 => ?_)
    · refine go_vret dLess_lessenPaletteBits_38 rfl ?_ (Nat.le_of_ble_eq_true rfl) (Nat.le_of_ble_eq_true rfl)
      exact retX (by rw [pB, if_pos ((nI_leI (by omega) (by omega)).mp c1)]; exact ⟨hP, Sm.refl _ _ _⟩)
    · have hl : c < π.1.2.2.1 := Nat.not_le.mp fun q => c1 (nI_le q (by omega))
      have hcc : 1 ≤ c ∧ c ≤ 8 := by omega
      refine go_aload_n dLess_lessenPaletteBits_10 rfl ?_
      refine go_getf dLess_lessenPaletteBits_11 qf_Less_63 hP.1 rfl ?_
      refine go_getf dLess_lessenPaletteBits_14 qf_Less_67 hP.2.1.1 rfl ?_
      refine go_iload_n dLess_lessenPaletteBits_17 rfl ?_
      refine go_statP dLess_lessenPaletteBits_18 ok_mPalette_most st_mPalette_most qm_Less_72 c_Palette_most ?_ (hnp := np_mPalette_most)
      rw [mst_n hcc.2]
      refine go_icmp_gt (tgt := 31) dLess_lessenPaletteBits_21 (fun c2 => ?_) (fun c2 => ?_)
      · refine go_iconst (v := 2) dLess_lessenPaletteBits_31 (by decide) ?_
        refine go_iload_n dLess_lessenPaletteBits_32 rfl ?_
        refine go_imul dLess_lessenPaletteBits_33 ?_
        refine go_istore_n dLess_lessenPaletteBits_34 ?_
        refine go_goto (tgt := 2) dLess_lessenPaletteBits_35 ?_
        exact (go_at (ih (2 * c) (by omega) (by rw [Nat.pow_succ] at hn; rw [Nat.mul_comm 2 c, Nat.mul_assoc, Nat.mul_comm 2]; exact hn)) rfl (by rw [← pk_mul 2 c]; rfl) rfl rfl).mono fun o S q => by rw [pB, if_neg (Nat.not_le.mpr hl), if_neg (fun e => absurd (nI_le e (by omega)) (Int32.not_le.mpr c2))]; exact q
      · refine go_aload_n dLess_lessenPaletteBits_24 rfl ?_
        refine go_iconst (v := 3) dLess_lessenPaletteBits_25 (by decide) ?_
        refine go_iload_n dLess_lessenPaletteBits_26 rfl ?_
        refine go_virtX dLess_lessenPaletteBits_27 ok_mPicture_become im_mPicture_become se_mPicture_become qm_Less_40 hP.1 (a_Picture_become (k := 3) (b := c) (chN_le _).1 (ho.toP h0 hc) hP) (fun hx3 d3 q3 => ?_) (hnp := np_mPicture_become)
        refine go_vret dLess_lessenPaletteBits_30 rfl ?_ (Nat.le_of_ble_eq_true rfl) (Nat.le_of_ble_eq_true rfl)
        exact retX (by rw [pB, if_neg (fun q => c1 (nI_le q (by omega))), if_pos (Nat.not_lt.mp fun q => c2 (nI_lt q (by omega)))]; exact q3)
set_option maxHeartbeats 4000000 in
theorem a_Less_lessenPaletteBits {E : pmEv} {h : pmH} {z : Option Nat} {p : Nat} {t : Bool} {π : aPic} (h0 : π.1.2.2.2 = 3) (hP : PiA h p t π) : Call E mLess_lessenPaletteBits [.ref p] h z 0 0 (RetX none (fun h' => PiA h' p t (pB π 3 1) ∧ Sm h h' p 10) z) := by
  refine call_of (L := [some (.ref p), none]) ok_mLess_lessenPaletteBits (Nat.le_of_ble_eq_true rfl) ?_
  refine go_iconst (v := 1) dLess_lessenPaletteBits_0 (by decide) ?_
  refine go_istore_n dLess_lessenPaletteBits_1 ?_
  exact l_Less_paletteBits h0 hP 3 1 (Or.inl rfl) (by have := hP.2.2.2.2.2.b; omega)
set_option maxHeartbeats 4000000 in
theorem l_Less_lessen_end {E : pmEv} {h0 h : pmH} {z : Option Nat} {d : Bool} {p : Nat} {t : Bool} {π σ : aPic} (hp : PiA h p t σ) (ho : okN π.1) (hs : Sm h0 h p 10) : Go E (mLess_lessen, h0, 0, 0) 44 [some (.ref p), some (.int (nI π.1.2.2.2)), some (.int (nI π.1.2.2.1))] [] (h, z, d) 0 0 (RetX none (fun h' => PiA h' p t (lsF π σ) ∧ Sm h0 h' p 10) z) := by
  have hk := ho.k
  have hb := ho.b
  have hk2 := hp.2.2.2.2.2.k
  have hb2 := hp.2.2.2.2.2.b
  refine go_aload_n dLess_lessen_44 rfl ?_
  refine go_getf dLess_lessen_45 qf_Less_7 hp.1 rfl ?_
  refine go_iload_n dLess_lessen_48 rfl ?_
  refine go_icmp_ne (tgt := 60) dLess_lessen_49 (fun c1 => ?_) (fun c1 => ?_)
  · refine go_aload_n dLess_lessen_60 rfl ?_
    refine go_virtX dLess_lessen_61 ok_mPicture_hasChanged im_mPicture_hasChanged se_mPicture_hasChanged qm_Less_33 hp.1 (a_Picture_hasChanged hp) (fun hx2 d2 q2 => ?_) (hnp := np_mPicture_hasChanged)
    refine go_vret dLess_lessen_64 rfl ?_ (Nat.le_of_ble_eq_true rfl) (Nat.le_of_ble_eq_true rfl)
    exact retX (by rw [lsF, if_neg (fun q => c1 (by rw [q.1]))]; exact ⟨q2.1, hs.trans q2.2⟩)
  · refine go_aload_n dLess_lessen_52 rfl ?_
    refine go_getf dLess_lessen_53 qf_Less_13 hp.1 rfl ?_
    refine go_iload_n dLess_lessen_56 rfl ?_
    refine go_icmp_eq (tgt := 64) dLess_lessen_57 (fun c2 => ?_) (fun c2 => ?_)
    · refine go_vret dLess_lessen_64 rfl ?_ (Nat.le_of_ble_eq_true rfl) (Nat.le_of_ble_eq_true rfl)
      exact retX (by rw [lsF, if_pos ⟨(nI_inj (by omega) (by omega)).mp c1, (nI_inj (by omega) (by omega)).mp c2⟩]; exact ⟨hp, hs⟩)
    · refine go_aload_n dLess_lessen_60 rfl ?_
      refine go_virtX dLess_lessen_61 ok_mPicture_hasChanged im_mPicture_hasChanged se_mPicture_hasChanged qm_Less_33 hp.1 (a_Picture_hasChanged hp) (fun hx3 d3 q3 => ?_) (hnp := np_mPicture_hasChanged)
      refine go_vret dLess_lessen_64 rfl ?_ (Nat.le_of_ble_eq_true rfl) (Nat.le_of_ble_eq_true rfl)
      exact retX (by rw [lsF, if_neg (fun q => c2 (by rw [q.2]))]; exact ⟨q3.1, hs.trans q3.2⟩)
set_option maxHeartbeats 4000000 in
theorem a_Less_lessen {E : pmEv} {h : pmH} {z : Option Nat} {p : Nat} {t : Bool} {π : aPic} (hP : PiA h p t π) : Call E mLess_lessen [.ref p] h z 0 0 (RetX none (fun h' => PiA h' p t (lsAll π) ∧ Sm h h' p 10) z) := by
  have ho := hP.2.2.2.2.2
  refine call_of (L := [some (.ref p), none, none]) ok_mLess_lessen (Nat.le_of_ble_eq_true rfl) ?_
  refine go_aload_n dLess_lessen_0 rfl ?_
  refine go_getf dLess_lessen_1 qf_Less_7 hP.1 rfl ?_
  refine go_istore_n dLess_lessen_4 ?_
  refine go_aload_n dLess_lessen_5 rfl ?_
  refine go_getf dLess_lessen_6 qf_Less_13 hP.1 rfl ?_
  refine go_istore_n dLess_lessen_9 ?_
  refine go_aload_n dLess_lessen_10 rfl ?_
  refine go_statX dLess_lessen_11 ok_mLess_lessenAlpha st_mLess_lessenAlpha qm_Less_16 (a_Less_lessenAlpha hP) (fun hx1 d1 q1 => ?_) (hnp := np_mLess_lessenAlpha)
  refine go_aload_n dLess_lessen_14 rfl ?_
  refine go_statX dLess_lessen_15 ok_mLess_lessenColours st_mLess_lessenColours qm_Less_22 (a_Less_lessenColours q1.1) (fun hx2 d2 q2 => ?_) (hnp := np_mLess_lessenColours)
  have hk2 := q2.1.2.2.2.2.2.k
  refine go_aload_n dLess_lessen_18 rfl ?_
  refine go_getf dLess_lessen_19 qf_Less_7 q2.1.1 rfl ?_
  refine go_if_ne (tgt := 32) dLess_lessen_22 (fun c3 => ?_) (fun c3 => ?_)
  · refine go_aload_n dLess_lessen_32 rfl ?_
    refine go_getf dLess_lessen_33 qf_Less_7 q2.1.1 rfl ?_
    refine go_iconst (v := 3) dLess_lessen_36 (by decide) ?_
    refine go_icmp_ne (tgt := 44) dLess_lessen_37 (fun c4 => ?_) (fun c4 => ?_)
    · exact l_Less_lessen_end (by rw [lsM, if_neg (fun q => c3 (by rw [q]; rfl)), if_neg (fun q => c4 (by rw [q]; rfl))]; exact q2.1) ho (q1.2.trans q2.2)
    · refine go_aload_n dLess_lessen_40 rfl ?_
      refine go_statX dLess_lessen_41 ok_mLess_lessenPaletteBits st_mLess_lessenPaletteBits qm_Less_30 (a_Less_lessenPaletteBits ((nI_inj (b := 3) (by omega) (by omega)).mp c4) q2.1) (fun hx5 d5 q5 => ?_) (hnp := np_mLess_lessenPaletteBits)
      exact l_Less_lessen_end (by rw [lsM, if_neg (fun q => c3 (by rw [q]; rfl)), if_pos ((nI_inj (b := 3) (by omega) (by omega)).mp c4)]; exact q5.1) ho ((q1.2.trans q2.2).trans q5.2)
  · refine go_aload_n dLess_lessen_25 rfl ?_
    refine go_statX dLess_lessen_26 ok_mLess_lessenGreyBits st_mLess_lessenGreyBits qm_Less_25 (a_Less_lessenGreyBits ((nI_inj (b := 0) (by omega) (by omega)).mp c3) q2.1) (fun hx4 d4 q4 => ?_) (hnp := np_mLess_lessenGreyBits)
    refine go_goto (tgt := 44) dLess_lessen_29 ?_
    exact l_Less_lessen_end (by rw [lsM, if_pos ((nI_inj (b := 0) (by omega) (by omega)).mp c3)]; exact q4.1) ho ((q1.2.trans q2.2).trans q4.2)
