/-! ===== what is known at the law's entry (by wip/whole/gen_start.py) ===== -/
theorem tbW {ws : List Cond} (ps : List Nat) (h : ws = ps.filterMap (fun i => tables_1[i]?)) : ∀ w ∈ ws, w ∈ lw_tbl := by
  intro w hw
  rw [h] at hw
  obtain ⟨i, -, hi⟩ := List.mem_filterMap.mp hw
  exact List.mem_append_right _ (List.mem_of_getElem? hi)
theorem tb1 {w : Cond} (i : Nat) (h : tables_1[i]? = some w) : w ∈ lw_tbl := List.mem_append_right _ (List.mem_of_getElem? h)
theorem kn_arr {args : Array Value} {s : State} {ty : FieldType} (h : (Cond.arrayClass ty).before args s = true) : ∃ cA : ClassId, s.vm.findClass ("[" ++ ty.toString) = some cA ∧ ArrOfT s cA ty := by
  obtain ⟨cA, kA, comp, h1, h2, h3⟩ := Cond.arrayClass_spec h
  exact ⟨cA, h1, fun n z => ⟨fun k h => (by cases h), kA, h2, comp, h3⟩⟩
theorem kn_K {args : Array Value} {s : State} (hts : ∀ w ∈ pmW, w.before args s = true) : ∃ (D : va_G) (T : ClassId × ClassId × ClassId), ∀ (l : Launch) (z : Nat) (A : Nat → Nat), va_K D pmCl (pmTs (l, z, D, T, A)) s := by
  have hK : ∀ ci : Nat, ∃ q : ClassId × (Nat → Nat), ∀ r : vw_C, pmCl[ci]? = some r → u_Kn s r.1 r.2.1 r.2.2 q.1 q.2 := by
    intro ci
    cases hr : pmCl[ci]? with
    | none => exact ⟨((0 : Nat), fun _ => 0), fun r h => by cases h⟩
    | some r =>
      have hk := pmCk_of hr
      obtain ⟨cC, iS, h⟩ := u_known (C := r.1) (T := r.2.1) (N := r.2.2) (n := r.2.2) hts hk.1 (hts _ hk.2.2.2.1)
      exact ⟨(cC, iS), fun r' h' => by cases h'; exact h⟩
  obtain ⟨f, hf⟩ := Classical.skolem.mp hK
  obtain ⟨cI, i1, i2⟩ := kn_arr (hts _ qw_I)
  obtain ⟨cJ, j1, j2⟩ := kn_arr (hts _ qw_J)
  obtain ⟨cZ, z1, z2⟩ := kn_arr (hts _ qw_Z)
  refine ⟨(fun c => (f c).1, fun c => (f c).2), (cI, cJ, cZ), fun l z A => ⟨fun c q h => hf c q h, fun k q h => ?_⟩⟩
  match k, h with
  | 0, h => cases h; exact ⟨i2, i1⟩
  | 1, h => cases h; exact ⟨j2, j1⟩
  | 2, h => cases h; exact ⟨z2, z1⟩
  | k + 3, h => simp [pmTs] at h
theorem kn_T {args : Array Value} {s : State} {C n d : String} {N : Nat} {f : Nat → Int32} {A : Nat → Prop} (hN : N < 2 ^ 31) (hlay : (Cond.laysStatic C n d).before args s = true) (hini : (Cond.initialized C).before args s = true) (harr : (Cond.arrayOf (.static C n d) .int).before args s = true) (hlen : (Cond.eq (.length (.static C n d)) (.int (Int32.ofNat N))).before args s = true) (hel : ∀ j : Nat, j < N → (Cond.eq (.elem (.static C n d) (.int (Int32.ofNat j))) (.int (f j))).before args s = true) (hA : ∀ a : Nat, a < s.heap.size → ¬ A a) : ∃ t : Nat, va_Z C n d (.ref t) A s s.heap ∧ va_T .int t N (fun j => .int (f j)) A s s.heap := by
  obtain ⟨t, ht, hT⟩ := va_Tof (f := fun j => .int (f j)) (A := A) hN harr (va_eqt hlen) (fun j hj => va_eqt (hel j hj)) hA
  exact ⟨t, va_Zref hlay hini ht hA, hT⟩
theorem va_T.lt {ty : FieldType} {t N : Nat} {f : Nat → Value} {A : Nat → Prop} {U : State} {H : Heap} (h : va_T ty t N f A U H) : t < H.size := by
  obtain ⟨cell, h1, -⟩ := h
  exact (Array.getElem?_eq_some_iff.mp h1).1
theorem va_T.len {ty : FieldType} {t N M : Nat} {f g : Nat → Value} {A : Nat → Prop} {U : State} {H : Heap} (h : va_T ty t N f A U H) (h' : va_T ty t M g A U H) : Int32.ofNat N = Int32.ofNat M := by
  obtain ⟨cell, h1, -, -, -, h2, -⟩ := h
  obtain ⟨cell', h1', -, -, -, h2', -⟩ := h'
  cases h1.symm.trans h1'
  exact h2.symm.trans h2'
theorem va_X.T {b L : Nat} {xs : Nat → Int32} {A : Nat → Prop} {U : State} {H : Heap} (h : va_X b L xs U H) (hA : ¬ A b) : va_T .int b L (fun j => .int (xs j)) A U H := by
  obtain ⟨scr, h1, h2, h3, h4, h5⟩ := h
  exact ⟨scr, h1, h2, h3, Nat.le_of_eq h4.symm, by rw [h4], h5, hA⟩
def stM (a0 a1 b L : Nat) (xs : Nat → Int32) : pmH := fun q => if q = a0 then some (pmT 8 bM) else if q = a1 then some (pmT 16 bT) else if q = b then some (pmT L xs) else none
theorem kn_R {args : Array Value} {s : State} {own tx : String} {k : Nat} (h : (Cond.stringRef own k tx).before args s = true) : ∃ a : Nat, vk_R own k tx a s := by
  have hcur : ∃ cur, s.vm.findClass own = some cur := by
    have h1 := h
    simp only [Cond.before, Cond.holds, Cond.value] at h1
    cases hc : s.vm.findClass own with
    | none => simp [hc] at h1
    | some cur => exact ⟨cur, rfl⟩
  obtain ⟨cur, hcur⟩ := hcur
  obtain ⟨kk, cf, i, a, -, -, -, -, -, hev⟩ := Cond.stringRef_spec hcur h
  exact ⟨a, vk_R.of h hev⟩
theorem gv_BEGINNING : Cond.arrayOf (.static "PortableFiles$Bytes" "BEGINNING" "[I") .int ∈ flatC (Jvm.Cond.and given_1 narrow_1) ∧ Cond.eq (.length (.static "PortableFiles$Bytes" "BEGINNING" "[I")) (.int (Int32.ofNat 8)) ∈ flatC (Jvm.Cond.and given_1 narrow_1) ∧ ∀ j : Nat, j < 8 → Cond.eq (.elem (.static "PortableFiles$Bytes" "BEGINNING" "[I") (.int (Int32.ofNat j))) (.int (bM j)) ∈ flatC (Jvm.Cond.and given_1 narrow_1) := ⟨by decide +kernel, by decide +kernel, by decide +kernel⟩
theorem gv_SUM_STEPS : Cond.arrayOf (.static "PortableFiles$Bytes" "SUM_STEPS" "[I") .int ∈ flatC (Jvm.Cond.and given_1 narrow_1) ∧ Cond.eq (.length (.static "PortableFiles$Bytes" "SUM_STEPS" "[I")) (.int (Int32.ofNat 16)) ∈ flatC (Jvm.Cond.and given_1 narrow_1) ∧ ∀ j : Nat, j < 16 → Cond.eq (.elem (.static "PortableFiles$Bytes" "SUM_STEPS" "[I") (.int (Int32.ofNat j))) (.int (bT j)) ∈ flatC (Jvm.Cond.and given_1 narrow_1) := ⟨by decide +kernel, by decide +kernel, by decide +kernel⟩
theorem gv_U : Cond.isRef (.static "java/lang/Throwable" "UNASSIGNED_STACK" "[Ljava/lang/StackTraceElement;") ∈ flatC (Jvm.Cond.and given_1 narrow_1) := by decide +kernel
theorem gv_S : Cond.isRef (.static "java/lang/Throwable" "SUPPRESSED_SENTINEL" "Ljava/util/List;") ∈ flatC (Jvm.Cond.and given_1 narrow_1) := by decide +kernel
theorem gv_X : ∀ x : Nat, x < 4 → ∀ y : Nat, y < 4 → x ≠ y → Cond.not (.castable (pmXs.getD x "") (pmXs.getD y "")) ∈ flatC (Jvm.Cond.and given_1 narrow_1) := by decide +kernel
theorem tb_str : ∀ w ∈ pmStr.map (fun q => Cond.stringRef "PortableFiles" q.1 q.2), w ∈ lw_tbl := tbW [581, 627, 637, 648, 697, 705, 719, 721, 740, 742, 752, 761, 816, 947, 956, 977, 993, 994, 1003, 1004, 686, 976, 925, 938, 756] (by decide +kernel)
theorem tb_nest : ∀ w ∈ pmNest, w ∈ lw_tbl := tbW [34, 40, 58, 68, 151, 183, 190] (by decide +kernel)
theorem tb_cast : ∀ w ∈ pmXs.map (fun x => Cond.castable x x), w ∈ lw_tbl := tbW [620, 541, 690, 641] (by decide +kernel)
theorem tb_decl : ∀ w ∈ pmXd.map (fun x => Cond.declares x), w ∈ lw_tbl := tbW [543, 545, 547] (by decide +kernel)
theorem pmNest_tabs : ∀ w ∈ pmNest, w.onTables = true := by decide +kernel
theorem whole_kn {args : Array Value} {s : State} (l : Launch) (hts : ∀ w ∈ lw_tbl, w.before args s = true) (hgv : (Jvm.Cond.and given_1 narrow_1).before args s = true) : ∃ (E : pmEv), E.1 = l ∧ E.2.1 = s.heap.size ∧ pmKn E s ∧ va_T .int (E.2.2.2.2 0) 8 (fun j => .int (bM j)) (pmA0 E) s s.heap ∧ va_T .int (E.2.2.2.2 1) 16 (fun j => .int (bT j)) (pmA0 E) s s.heap := by
  have hs := flat_of_before _ hgv
  have hA : ∀ a : Nat, a < s.heap.size → ¬ (fun q : Nat => s.heap.size ≤ q) a := fun a h => Nat.not_le.mpr h
  have hW : ∀ w ∈ pmW, w.before args s = true := fun w hw => hts w (pmW_good w hw).1
  obtain ⟨D, T, hK⟩ := kn_K hW
  have hU := hts _ (tb1 (w := .laysStatic "java/lang/Throwable" "UNASSIGNED_STACK" "[Ljava/lang/StackTraceElement;") 566 (by decide +kernel))
  have hP := hts _ (tb1 (w := .laysStatic "java/lang/Throwable" "SUPPRESSED_SENTINEL" "Ljava/util/List;") 568 (by decide +kernel))
  have hI := hts _ (tb1 (w := .initialized "java/lang/Throwable") 11 (by decide +kernel))
  obtain ⟨a0, hz0, ht0⟩ := kn_T (N := 8) (f := bM) (A := fun q : Nat => s.heap.size ≤ q) (by decide) (hts _ (tb1 (w := .laysStatic "PortableFiles$Bytes" "BEGINNING" "[I") 274 (by decide +kernel))) (hW _ qI_Bytes) (hs _ gv_BEGINNING.1) (hs _ gv_BEGINNING.2.1) (fun j hj => hs _ (gv_BEGINNING.2.2 j hj)) hA
  obtain ⟨a1, hz1, ht1⟩ := kn_T (N := 16) (f := bT) (A := fun q : Nat => s.heap.size ≤ q) (by decide) (hts _ (tb1 (w := .laysStatic "PortableFiles$Bytes" "SUM_STEPS" "[I") 331 (by decide +kernel))) (hW _ qI_Bytes) (hs _ gv_SUM_STEPS.1) (hs _ gv_SUM_STEPS.2.1) (fun j hj => hs _ (gv_SUM_STEPS.2.2 j hj)) hA
  refine ⟨(l, s.heap.size, D, T, fun k => if k = 0 then a0 else a1), rfl, rfl, ⟨hK _ _ _, Nat.le_refl _, hz0, hz1, va_Zqof hU hI (hs _ gv_U) hA, va_Zqof hP hI (hs _ gv_S) hA, fun w hw => va_Nw.of (pmNest_tabs w hw) (hts w (tb_nest w hw)), fun x y h1 h2 h3 => va_Nc.of (hs _ (gv_X x h1 y h2 h3)), fun q hq => kn_R (hts _ (tb_str _ (List.mem_map.mpr ⟨q, hq, rfl⟩))), ⟨pmLy.of hU hA, pmLy.of hP hA⟩, fun x hx => va_Nw.of rfl (hts _ (tb_cast _ (List.mem_map.mpr ⟨x, hx, rfl⟩))), fun x hx => va_Nw.of rfl (hts _ (tb_decl _ (List.mem_map.mpr ⟨x, hx, rfl⟩)))⟩, ht0, ht1⟩
