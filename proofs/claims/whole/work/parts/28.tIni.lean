/-! ===== the constructors (by wip/whole/gen_tIni.py) ===== -/
def RetI (P : pmH → Prop) (z : Nat) : pmA → pmS → Prop := fun o S => o = .inl none ∧ P S.1 ∧ S.2.1 = some z
theorem retI {P : pmH → Prop} {z : Nat} {h' : pmH} {d : Bool} (hP : P h') : RetI P z (.inl none) (h', some z, d) := ⟨rfl, hP, rfl⟩
theorem Sm.put1 {h : pmH} {q : Nat} (c : pmC) : Sm h (pmU h q c) q 1 := Sm.put c (Nat.le_refl _) (by omega)
section PRJ
variable {E : pmEv} {F : pmFr} {pc : Nat} {L : pmL} {st : List Value} {S : pmS} {k n : Nat} {Q : pmA → pmS → Prop}
theorem go_initI {x b mc ms z z' : Nat} {M : pmMeth} {vs rest st0 : List Value} {P : pmH → Prop} {hh : pmH} {dd : Bool} {pc' : Nat} (hd : decode F.1.2.1 pc = .ok (.invokespecial x, 3)) (hok : pmOk M) (him : Cond.instanceMethod M.1 ∈ pmW) (hcd : Cond.code M.1 M.2.1 M.2.2.1 none ∈ pmW) (hl : Cond.methodLink F.1.1.cls x M.1 ∈ pmW ∨ Cond.methodLinkNest F.1.1.cls x M.1 "PortableFiles" ∈ pmNest) (hC : Call E M (.ref b :: vs) hh (some z) mc ms (RetI P z'))
    (h : ∀ h' d, P h' → Go E F pc' L rest (h', some z', d) (k + mc) (n + ms) Q)
    (hy1 : M.1.name = "<init>" := by rfl) (hs0 : st0 = vs.reverse ++ .ref b :: rest := by rfl) (hnp : (parseMethodDescriptor M.1.desc).map (fun d => d.parameters.length) = some vs.length := by decide +kernel) (hfr : M.2.2.2.2.2.2.2.1 + 1 ≤ F.1.2.2.2.2.2.2.2.1 := by exact Nat.le_of_ble_eq_true rfl) (hlo : 8 + (M.2.2.1 + 11) + M.2.2.2.2.2.2.2.2 ≤ F.1.2.2.2.2.2.2.2.2 := by exact Nat.le_of_ble_eq_true rfl) (hcl : k + mc ≤ F.2.2.1 := by exact Nat.le_of_ble_eq_true rfl) (hsl : n + ms ≤ F.2.2.2 := by exact Nat.le_of_ble_eq_true rfl) (hW : (rest.map fun v => v.category).sum ≤ 8 := by exact Nat.le_of_ble_eq_true rfl) (hp : pc + 3 = pc' := by rfl) : Go E F pc L st0 (hh, some z, dd) k n Q :=
  go_init hd hok him hcd hl hC (fun v' S'' hq => by obtain ⟨h1, h2, h3⟩ := hq; cases h1; rw [h3]; exact h _ _ h2) (fun x' S'' hq => by obtain ⟨h1, -⟩ := hq; cases h1) hy1 hs0 hnp hfr hlo hcl hsl hW hp
theorem nt_0 : ∀ k, k < 2 → parseFieldDescriptor (pmT0 k).2.2.1 = some (pmy0 k) := fun k hk => (show ∀ k : Fin 2, parseFieldDescriptor (pmT0 k.1).2.2.1 = some (pmy0 k.1) by decide +kernel) ⟨k, hk⟩
theorem nv_0 : ∀ j, j < 2 → defaultValue (pmy0 j) = vp_V [.null, .int 0] j := fun j hj => (show ∀ j : Fin 2, defaultValue (pmy0 j.1) = vp_V [.null, .int 0] j.1 by decide +kernel) ⟨j, hj⟩
theorem go_new0 {x z : Nat} {pc' : Nat} (hd : decode F.1.2.1 pc = .ok (.new x, 3)) (hl : Cond.classLink F.1.1.cls x "PortableFiles$Bytes" ∈ pmW) (hz : S.2.1 = some z) (hcl : k + 1 ≤ F.2.2.1) (hsl : n + 2 ≤ F.2.2.2) (h : Go E F pc' L (.ref z :: st) (pmU S.1 z (pmO 0 [.null, .int 0]), some (z + 1), true) (k + 1) (n + 2) Q) (hp : pc + 3 = pc' := by rfl) : Go E F pc L st S k n Q := go_new hd (ci := 0) (C := "PortableFiles$Bytes") (T := pmT0) (N := 2) rfl hl hz rfl pmy0 nt_0 nv_0 hcl hsl h hp
theorem nt_1 : ∀ k, k < 4 → parseFieldDescriptor (pmT1 k).2.2.1 = some (pmy1 k) := fun k hk => (show ∀ k : Fin 4, parseFieldDescriptor (pmT1 k.1).2.2.1 = some (pmy1 k.1) by decide +kernel) ⟨k, hk⟩
theorem nv_1 : ∀ j, j < 4 → defaultValue (pmy1 j) = vp_V [.null, .null, .null, .int 0] j := fun j hj => (show ∀ j : Fin 4, defaultValue (pmy1 j.1) = vp_V [.null, .null, .null, .int 0] j.1 by decide +kernel) ⟨j, hj⟩
theorem go_new1 {x z : Nat} {pc' : Nat} (hd : decode F.1.2.1 pc = .ok (.new x, 3)) (hl : Cond.classLink F.1.1.cls x "PortableFiles$Extras" ∈ pmW) (hz : S.2.1 = some z) (hcl : k + 1 ≤ F.2.2.1) (hsl : n + 4 ≤ F.2.2.2) (h : Go E F pc' L (.ref z :: st) (pmU S.1 z (pmO 1 [.null, .null, .null, .int 0]), some (z + 1), true) (k + 1) (n + 4) Q) (hp : pc + 3 = pc' := by rfl) : Go E F pc L st S k n Q := go_new hd (ci := 1) (C := "PortableFiles$Extras") (T := pmT1) (N := 4) rfl hl hz rfl pmy1 nt_1 nv_1 hcl hsl h hp
theorem nt_2 : ∀ k, k < 2 → parseFieldDescriptor (pmT2 k).2.2.1 = some (pmy2 k) := fun k hk => (show ∀ k : Fin 2, parseFieldDescriptor (pmT2 k.1).2.2.1 = some (pmy2 k.1) by decide +kernel) ⟨k, hk⟩
theorem nv_2 : ∀ j, j < 2 → defaultValue (pmy2 j) = vp_V [.null, .int 0] j := fun j hj => (show ∀ j : Fin 2, defaultValue (pmy2 j.1) = vp_V [.null, .int 0] j.1 by decide +kernel) ⟨j, hj⟩
theorem go_new2 {x z : Nat} {pc' : Nat} (hd : decode F.1.2.1 pc = .ok (.new x, 3)) (hl : Cond.classLink F.1.1.cls x "PortableFiles$Palette" ∈ pmW) (hz : S.2.1 = some z) (hcl : k + 1 ≤ F.2.2.1) (hsl : n + 2 ≤ F.2.2.2) (h : Go E F pc' L (.ref z :: st) (pmU S.1 z (pmO 2 [.null, .int 0]), some (z + 1), true) (k + 1) (n + 2) Q) (hp : pc + 3 = pc' := by rfl) : Go E F pc L st S k n Q := go_new hd (ci := 2) (C := "PortableFiles$Palette") (T := pmT2) (N := 2) rfl hl hz rfl pmy2 nt_2 nv_2 hcl hsl h hp
theorem nt_3 : ∀ k, k < 10 → parseFieldDescriptor (pmT3 k).2.2.1 = some (pmy3 k) := fun k hk => (show ∀ k : Fin 10, parseFieldDescriptor (pmT3 k.1).2.2.1 = some (pmy3 k.1) by decide +kernel) ⟨k, hk⟩
theorem nv_3 : ∀ j, j < 10 → defaultValue (pmy3 j) = vp_V [.null, .null, .null, .null, .int 0, .int 0, .int 0, .int 0, .int 0, .int 0] j := fun j hj => (show ∀ j : Fin 10, defaultValue (pmy3 j.1) = vp_V [.null, .null, .null, .null, .int 0, .int 0, .int 0, .int 0, .int 0, .int 0] j.1 by decide +kernel) ⟨j, hj⟩
theorem go_new3 {x z : Nat} {pc' : Nat} (hd : decode F.1.2.1 pc = .ok (.new x, 3)) (hl : Cond.classLink F.1.1.cls x "PortableFiles$Picture" ∈ pmW) (hz : S.2.1 = some z) (hcl : k + 1 ≤ F.2.2.1) (hsl : n + 10 ≤ F.2.2.2) (h : Go E F pc' L (.ref z :: st) (pmU S.1 z (pmO 3 [.null, .null, .null, .null, .int 0, .int 0, .int 0, .int 0, .int 0, .int 0]), some (z + 1), true) (k + 1) (n + 10) Q) (hp : pc + 3 = pc' := by rfl) : Go E F pc L st S k n Q := go_new hd (ci := 3) (C := "PortableFiles$Picture") (T := pmT3) (N := 10) rfl hl hz rfl pmy3 nt_3 nv_3 hcl hsl h hp
theorem nt_4 : ∀ k, k < 16 → parseFieldDescriptor (pmT4 k).2.2.1 = some (pmy4 k) := fun k hk => (show ∀ k : Fin 16, parseFieldDescriptor (pmT4 k.1).2.2.1 = some (pmy4 k.1) by decide +kernel) ⟨k, hk⟩
theorem nv_4 : ∀ j, j < 16 → defaultValue (pmy4 j) = vp_V [.null, .null, .null, .int 0, .int 0, .int 0, .int 0, .int 0, .int 0, .int 0, .int 0, .int 0, .int 0, .int 0, .int 0, .int 0] j := fun j hj => (show ∀ j : Fin 16, defaultValue (pmy4 j.1) = vp_V [.null, .null, .null, .int 0, .int 0, .int 0, .int 0, .int 0, .int 0, .int 0, .int 0, .int 0, .int 0, .int 0, .int 0, .int 0] j.1 by decide +kernel) ⟨j, hj⟩
theorem go_new4 {x z : Nat} {pc' : Nat} (hd : decode F.1.2.1 pc = .ok (.new x, 3)) (hl : Cond.classLink F.1.1.cls x "PortableFiles$Reading" ∈ pmW) (hz : S.2.1 = some z) (hcl : k + 1 ≤ F.2.2.1) (hsl : n + 16 ≤ F.2.2.2) (h : Go E F pc' L (.ref z :: st) (pmU S.1 z (pmO 4 [.null, .null, .null, .int 0, .int 0, .int 0, .int 0, .int 0, .int 0, .int 0, .int 0, .int 0, .int 0, .int 0, .int 0, .int 0]), some (z + 1), true) (k + 1) (n + 16) Q) (hp : pc + 3 = pc' := by rfl) : Go E F pc L st S k n Q := go_new hd (ci := 4) (C := "PortableFiles$Reading") (T := pmT4) (N := 16) rfl hl hz rfl pmy4 nt_4 nv_4 hcl hsl h hp
theorem nt_5 : ∀ k, k < 1 → parseFieldDescriptor (pmT5 k).2.2.1 = some (pmy5 k) := fun k hk => (show ∀ k : Fin 1, parseFieldDescriptor (pmT5 k.1).2.2.1 = some (pmy5 k.1) by decide +kernel) ⟨k, hk⟩
theorem nv_5 : ∀ j, j < 1 → defaultValue (pmy5 j) = vp_V [.null] j := fun j hj => (show ∀ j : Fin 1, defaultValue (pmy5 j.1) = vp_V [.null] j.1 by decide +kernel) ⟨j, hj⟩
theorem go_new5 {x z : Nat} {pc' : Nat} (hd : decode F.1.2.1 pc = .ok (.new x, 3)) (hl : Cond.classLink F.1.1.cls x "PortableFiles$Tags" ∈ pmW) (hz : S.2.1 = some z) (hcl : k + 1 ≤ F.2.2.1) (hsl : n + 1 ≤ F.2.2.2) (h : Go E F pc' L (.ref z :: st) (pmU S.1 z (pmO 5 [.null]), some (z + 1), true) (k + 1) (n + 1) Q) (hp : pc + 3 = pc' := by rfl) : Go E F pc L st S k n Q := go_new hd (ci := 5) (C := "PortableFiles$Tags") (T := pmT5) (N := 1) rfl hl hz rfl pmy5 nt_5 nv_5 hcl hsl h hp
theorem nt_6 : ∀ k, k < 3 → parseFieldDescriptor (pmT6 k).2.2.1 = some (pmy6 k) := fun k hk => (show ∀ k : Fin 3, parseFieldDescriptor (pmT6 k.1).2.2.1 = some (pmy6 k.1) by decide +kernel) ⟨k, hk⟩
theorem nv_6 : ∀ j, j < 3 → defaultValue (pmy6 j) = vp_V [.null, .null, .int 0] j := fun j hj => (show ∀ j : Fin 3, defaultValue (pmy6 j.1) = vp_V [.null, .null, .int 0] j.1 by decide +kernel) ⟨j, hj⟩
theorem go_new6 {x z : Nat} {pc' : Nat} (hd : decode F.1.2.1 pc = .ok (.new x, 3)) (hl : Cond.classLink F.1.1.cls x "PortableFiles$Writing" ∈ pmW) (hz : S.2.1 = some z) (hcl : k + 1 ≤ F.2.2.1) (hsl : n + 3 ≤ F.2.2.2) (h : Go E F pc' L (.ref z :: st) (pmU S.1 z (pmO 6 [.null, .null, .int 0]), some (z + 1), true) (k + 1) (n + 3) Q) (hp : pc + 3 = pc' := by rfl) : Go E F pc L st S k n Q := go_new hd (ci := 6) (C := "PortableFiles$Writing") (T := pmT6) (N := 3) rfl hl hz rfl pmy6 nt_6 nv_6 hcl hsl h hp
theorem nt_7 : ∀ k, k < 3 → parseFieldDescriptor (pmT7 k).2.2.1 = some (pmy7 k) := fun k hk => (show ∀ k : Fin 3, parseFieldDescriptor (pmT7 k.1).2.2.1 = some (pmy7 k.1) by decide +kernel) ⟨k, hk⟩
theorem nv_7 : ∀ j, j < 3 → defaultValue (pmy7 j) = vp_V [.null, .null, .null] j := fun j hj => (show ∀ j : Fin 3, defaultValue (pmy7 j.1) = vp_V [.null, .null, .null] j.1 by decide +kernel) ⟨j, hj⟩
theorem go_new7 {x z : Nat} {pc' : Nat} (hd : decode F.1.2.1 pc = .ok (.new x, 3)) (hl : Cond.classLink F.1.1.cls x "PortableFiles" ∈ pmW) (hz : S.2.1 = some z) (hcl : k + 1 ≤ F.2.2.1) (hsl : n + 3 ≤ F.2.2.2) (h : Go E F pc' L (.ref z :: st) (pmU S.1 z (pmO 7 [.null, .null, .null]), some (z + 1), true) (k + 1) (n + 3) Q) (hp : pc + 3 = pc' := by rfl) : Go E F pc L st S k n Q := go_new hd (ci := 7) (C := "PortableFiles") (T := pmT7) (N := 3) rfl hl hz rfl pmy7 nt_7 nv_7 hcl hsl h hp
theorem nt_8 : ∀ k, k < 42 → parseFieldDescriptor (pmT8 k).2.2.1 = some (pmy8 k) := fun k hk => (show ∀ k : Fin 42, parseFieldDescriptor (pmT8 k.1).2.2.1 = some (pmy8 k.1) by decide +kernel) ⟨k, hk⟩
theorem nv_8 : ∀ j, j < 42 → defaultValue (pmy8 j) = vp_V [.int 0, .int 0, .int 0, .int 0, .int 0, .int 0, .null, .int 0, .null, .null, .int 0, .null, .null, .null, .int 0, .int 0, .int 0, .int 0, .int 0, .null, .int 0, .null, .null, .int 0, .null, .null, .null, .int 0, .int 0, .null, .int 0, .null, .int 0, .int 0, .null, .int 0, .int 0, .int 0, .int 0, .int 0, .int 0, .null] j := fun j hj => (show ∀ j : Fin 42, defaultValue (pmy8 j.1) = vp_V [.int 0, .int 0, .int 0, .int 0, .int 0, .int 0, .null, .int 0, .null, .null, .int 0, .null, .null, .null, .int 0, .int 0, .int 0, .int 0, .int 0, .null, .int 0, .null, .null, .int 0, .null, .null, .null, .int 0, .int 0, .null, .int 0, .null, .int 0, .int 0, .null, .int 0, .int 0, .int 0, .int 0, .int 0, .int 0, .null] j.1 by decide +kernel) ⟨j, hj⟩
theorem go_new8 {x z : Nat} {pc' : Nat} (hd : decode F.1.2.1 pc = .ok (.new x, 3)) (hl : Cond.classLink F.1.1.cls x "PortableFilesModel" ∈ pmW) (hz : S.2.1 = some z) (hcl : k + 1 ≤ F.2.2.1) (hsl : n + 42 ≤ F.2.2.2) (h : Go E F pc' L (.ref z :: st) (pmU S.1 z (pmO 8 [.int 0, .int 0, .int 0, .int 0, .int 0, .int 0, .null, .int 0, .null, .null, .int 0, .null, .null, .null, .int 0, .int 0, .int 0, .int 0, .int 0, .null, .int 0, .null, .null, .int 0, .null, .null, .null, .int 0, .int 0, .null, .int 0, .null, .int 0, .int 0, .null, .int 0, .int 0, .int 0, .int 0, .int 0, .int 0, .null]), some (z + 1), true) (k + 1) (n + 42) Q) (hp : pc + 3 = pc' := by rfl) : Go E F pc L st S k n Q := go_new hd (ci := 8) (C := "PortableFilesModel") (T := pmT8) (N := 42) rfl hl hz rfl pmy8 nt_8 nv_8 hcl hsl h hp
end PRJ
theorem tg3 {i : Nat} (hi : i < 3) : upd (upd (upd (fun _ => 0) (0 : Int32).toNatClampNeg (-1)) (1 : Int32).toNatClampNeg (-1)) (2 : Int32).toNatClampNeg (-1) i = (-1 : Int32) := by
  have q : ∀ i : Fin 3, upd (upd (upd (fun _ => 0) (0 : Int32).toNatClampNeg (-1)) (1 : Int32).toNatClampNeg (-1)) (2 : Int32).toNatClampNeg (-1) i.1 = (-1 : Int32) := by decide
  exact q ⟨i, hi⟩
def pi0 : aPic := ((1, 1, 8, 0), (fun _ => 0), (fun _ => 0, 0), (fun _ => -1), (fun _ => 0, fun _ => 0, fun _ => 0, 0))
def pf0 : aPF := ((false, pi0), (fun _ => 0, 0), (fun _ => 0, 0), ((false, pi0), (fun _ => 0, 0), fun _ => 0))
set_option maxHeartbeats 4000000 in
theorem i_Bytes {E : pmEv} {h : pmH} {b N : Nat} (hN : N ≤ 4096) (h0 : h b = some (pmO 0 [.null, .int 0])) : Call E mBytes_init [.ref b, .int (nI N)] h (some (b + 1)) 1 N (RetI (fun h' => BA h' b N (fun _ => 0, 0) ∧ Sm h h' b 2) (b + 2)) := by
  refine call_of (L := [some (.ref b), some (.int (nI N))]) ok_mBytes_init (Nat.le_of_ble_eq_true rfl) ?_
  refine go_aload_n dBytes_init_0 rfl ?_
  refine go_obj dBytes_init_1 qo_Bytes_1 (Nat.le_of_ble_eq_true rfl) (Nat.le_of_ble_eq_true rfl) ?_
  refine go_aload_n dBytes_init_4 rfl ?_
  refine go_iload_n dBytes_init_5 rfl ?_
  refine go_if_ge (tgt := 13) dBytes_init_6 (fun c1 => ?_) (fun c1 => ?_)
  · refine go_iload_n dBytes_init_13 rfl ?_
    refine go_newI (z := b + 1) (N := N) dBytes_init_14 rfl (nI_pos (by omega)) (nI_clamp (by omega)) (by omega) (Nat.le_of_ble_eq_true rfl) (show 0 + N ≤ N by omega) ?_
    refine go_putF dBytes_init_16 qf_Bytes_7 pw_0_0 rfl ((pmU_n _ _ (by omega)).trans h0) rfl rfl ?_
    refine go_vret dBytes_init_19 rfl ?_ (Nat.le_of_ble_eq_true rfl) (show 0 + N ≤ N by omega)
    exact retI ⟨⟨by rw [Nat.min_zero]; exact (pmU_s _ _ _), ⟨fun _ => 0, ((pmU_n _ _ (by omega)).trans (pmU_s _ _ _)), fun _ _ => rfl⟩, hN⟩, (Sm.put' (Sm.put' (Sm.refl _ _ _) _ (by omega) (by omega)) _ (by omega) (by omega))⟩
  · exact absurd (nI_pos' (by omega)) c1
set_option maxHeartbeats 4000000 in
theorem i_Palette {E : pmEv} {h : pmH} {q : Nat} (h0 : h q = some (pmO 2 [.null, .int 0])) : Call E mPalette_init [.ref q] h (some (q + 1)) 1 256 (RetI (fun h' => PaA h' q (fun _ => 0, 0) ∧ Sm h h' q 2) (q + 2)) := by
  refine call_of (L := [some (.ref q)]) ok_mPalette_init (Nat.le_of_ble_eq_true rfl) ?_
  refine go_aload_n dPalette_init_0 rfl ?_
  refine go_obj dPalette_init_1 qo_Palette_1 (Nat.le_of_ble_eq_true rfl) (Nat.le_of_ble_eq_true rfl) ?_
  refine go_aload_n dPalette_init_4 rfl ?_
  refine go_sipush (v := 256) dPalette_init_5 (by decide) ?_
  refine go_newI (z := q + 1) (N := 256) dPalette_init_8 rfl (by decide) (by decide) (by decide) (Nat.le_of_ble_eq_true rfl) (Nat.le_of_ble_eq_true rfl) ?_
  refine go_putF dPalette_init_10 qf_Palette_9 pw_2_0 rfl ((pmU_n _ _ (by omega)).trans h0) rfl rfl ?_
  refine go_vret dPalette_init_13 rfl ?_ (Nat.le_of_ble_eq_true rfl) (Nat.le_of_ble_eq_true rfl)
  exact retI ⟨⟨(pmU_s _ _ _), ⟨fun _ => 0, ((pmU_n _ _ (by omega)).trans (pmU_s _ _ _)), fun _ _ => rfl⟩, by decide⟩, (Sm.put' (Sm.put' (Sm.refl _ _ _) _ (by omega) (by omega)) _ (by omega) (by omega))⟩
set_option maxHeartbeats 4000000 in
theorem i_Tags {E : pmEv} {h : pmH} {t : Nat} (h0 : h t = some (pmO 5 [.null])) : Call E mTags_init [.ref t] h (some (t + 1)) 1 3 (RetI (fun h' => TgA h' t (fun _ => -1) ∧ Sm h h' t 2) (t + 2)) := by
  refine call_of (L := [some (.ref t)]) ok_mTags_init (Nat.le_of_ble_eq_true rfl) ?_
  refine go_aload_n dTags_init_0 rfl ?_
  refine go_obj dTags_init_1 qo_Tags_3 (Nat.le_of_ble_eq_true rfl) (Nat.le_of_ble_eq_true rfl) ?_
  refine go_aload_n dTags_init_4 rfl ?_
  refine go_iconst (v := 3) dTags_init_5 (by decide) ?_
  refine go_newI (z := t + 1) (N := 3) dTags_init_6 rfl (by decide) (by decide) (by decide) (Nat.le_of_ble_eq_true rfl) (Nat.le_of_ble_eq_true rfl) ?_
  refine go_dup dTags_init_8 rfl ?_
  refine go_iconst (v := 0) dTags_init_9 (by decide) ?_
  refine go_iconst (v := -1) dTags_init_10 (by decide) ?_
  refine go_iast dTags_init_11 (pmU_s _ _ _) (by first | exact vp_in_nI (n := 0) (by omega) (by omega) | exact vp_in_nI (n := 1) (by omega) (by omega) | exact vp_in_nI (n := 2) (by omega) (by omega)) rfl ?_
  refine go_dup dTags_init_12 rfl ?_
  refine go_iconst (v := 1) dTags_init_13 (by decide) ?_
  refine go_iconst (v := -1) dTags_init_14 (by decide) ?_
  refine go_iast dTags_init_15 (pmU_s _ _ _) (by first | exact vp_in_nI (n := 0) (by omega) (by omega) | exact vp_in_nI (n := 1) (by omega) (by omega) | exact vp_in_nI (n := 2) (by omega) (by omega)) rfl ?_
  refine go_dup dTags_init_16 rfl ?_
  refine go_iconst (v := 2) dTags_init_17 (by decide) ?_
  refine go_iconst (v := -1) dTags_init_18 (by decide) ?_
  refine go_iast dTags_init_19 (pmU_s _ _ _) (by first | exact vp_in_nI (n := 0) (by omega) (by omega) | exact vp_in_nI (n := 1) (by omega) (by omega) | exact vp_in_nI (n := 2) (by omega) (by omega)) rfl ?_
  refine go_putF dTags_init_20 qf_Tags_9 pw_5_0 rfl ((pmU_n _ _ (by omega)).trans ((pmU_n _ _ (by omega)).trans ((pmU_n _ _ (by omega)).trans ((pmU_n _ _ (by omega)).trans h0)))) rfl rfl ?_
  refine go_vret dTags_init_23 rfl ?_ (Nat.le_of_ble_eq_true rfl) (Nat.le_of_ble_eq_true rfl)
  exact retI ⟨⟨(pmU_s _ _ _), _, ((pmU_n _ _ (by omega)).trans (pmU_s _ _ _)), fun i hi => tg3 hi⟩, (Sm.put' (Sm.put' (Sm.put' (Sm.put' (Sm.put' (Sm.refl _ _ _) _ (by omega) (by omega)) _ (by omega) (by omega)) _ (by omega) (by omega)) _ (by omega) (by omega)) _ (by omega) (by omega))⟩
set_option maxHeartbeats 4000000 in
theorem i_Extras {E : pmEv} {h : pmH} {x : Nat} (h0 : h x = some (pmO 1 [.null, .null, .null, .int 0])) : Call E mExtras_init [.ref x] h (some (x + 1)) 3 252 (RetI (fun h' => ExA h' x (fun _ => 0, fun _ => 0, fun _ => 0, 0) ∧ Sm h h' x 4) (x + 4)) := by
  refine call_of (L := [some (.ref x)]) ok_mExtras_init (Nat.le_of_ble_eq_true rfl) ?_
  refine go_aload_n dExtras_init_0 rfl ?_
  refine go_obj dExtras_init_1 qo_Extras_1 (Nat.le_of_ble_eq_true rfl) (Nat.le_of_ble_eq_true rfl) ?_
  refine go_aload_n dExtras_init_4 rfl ?_
  refine go_bipush (v := 6) dExtras_init_5 (by decide) ?_
  refine go_newI (z := x + 1) (N := 6) dExtras_init_7 rfl (by decide) (by decide) (by decide) (Nat.le_of_ble_eq_true rfl) (Nat.le_of_ble_eq_true rfl) ?_
  refine go_putF dExtras_init_9 qf_Extras_9 pw_1_0 rfl ((pmU_n _ _ (by omega)).trans h0) rfl rfl ?_
  refine go_aload_n dExtras_init_12 rfl ?_
  refine go_bipush (v := 6) dExtras_init_13 (by decide) ?_
  refine go_newI (z := x + 1 + 1) (N := 6) dExtras_init_15 rfl (by decide) (by decide) (by decide) (Nat.le_of_ble_eq_true rfl) (Nat.le_of_ble_eq_true rfl) ?_
  refine go_putF dExtras_init_17 qf_Extras_13 pw_1_1 rfl ((pmU_n _ _ (by omega)).trans (pmU_s _ _ _)) rfl rfl ?_
  refine go_aload_n dExtras_init_20 rfl ?_
  refine go_sipush (v := 240) dExtras_init_21 (by decide) ?_
  refine go_newI (z := x + 1 + 1 + 1) (N := 240) dExtras_init_24 rfl (by decide) (by decide) (by decide) (Nat.le_of_ble_eq_true rfl) (Nat.le_of_ble_eq_true rfl) ?_
  refine go_putF dExtras_init_26 qf_Extras_16 pw_1_2 rfl ((pmU_n _ _ (by omega)).trans (pmU_s _ _ _)) rfl rfl ?_
  refine go_vret dExtras_init_29 rfl ?_ (Nat.le_of_ble_eq_true rfl) (Nat.le_of_ble_eq_true rfl)
  exact retI ⟨⟨(pmU_s _ _ _), ⟨_, _, _, ((pmU_n _ _ (by omega)).trans ((pmU_n _ _ (by omega)).trans ((pmU_n _ _ (by omega)).trans ((pmU_n _ _ (by omega)).trans ((pmU_n _ _ (by omega)).trans (pmU_s _ _ _)))))), ((pmU_n _ _ (by omega)).trans ((pmU_n _ _ (by omega)).trans ((pmU_n _ _ (by omega)).trans (pmU_s _ _ _)))), ((pmU_n _ _ (by omega)).trans (pmU_s _ _ _)), eAr_0⟩, by decide⟩, (Sm.put' (Sm.put' (Sm.put' (Sm.put' (Sm.put' (Sm.put' (Sm.refl _ _ _) _ (by omega) (by omega)) _ (by omega) (by omega)) _ (by omega) (by omega)) _ (by omega) (by omega)) _ (by omega) (by omega)) _ (by omega) (by omega))⟩
set_option maxHeartbeats 4000000 in
theorem i_Picture {E : pmEv} {h : pmH} {p : Nat} (h0 : h p = some (pmO 3 [.null, .null, .null, .null, .int 0, .int 0, .int 0, .int 0, .int 0, .int 0])) : Call E mPicture_init [.ref p] h (some (p + 1)) 9 1094 (RetI (fun h' => PiA h' p false pi0 ∧ Sm h h' p 10) (p + 10)) := by
  refine call_of (L := [some (.ref p)]) ok_mPicture_init (Nat.le_of_ble_eq_true rfl) ?_
  refine go_aload_n dPicture_init_0 rfl ?_
  refine go_obj dPicture_init_1 qo_Picture_3 (Nat.le_of_ble_eq_true rfl) (Nat.le_of_ble_eq_true rfl) ?_
  refine go_aload_n dPicture_init_4 rfl ?_
  refine go_new2 (z := p + 1) dPicture_init_5 qn_Picture_9 rfl (Nat.le_of_ble_eq_true rfl) (Nat.le_of_ble_eq_true rfl) ?_
  refine go_dup dPicture_init_8 rfl ?_
  refine go_initI dPicture_init_9 ok_mPalette_init im_mPalette_init ok_mPalette_init.1.1 (Or.inr qN_Picture_11) (i_Palette (pmU_s _ _ _)) (fun hx1 d1 q1 => ?_)
  refine go_putF dPicture_init_12 qf_Picture_12 pw_3_0 rfl ((q1.2 _ (by omega)).trans ((pmU_n _ _ (by omega)).trans h0)) rfl rfl ?_
  refine go_aload_n dPicture_init_15 rfl ?_
  refine go_new5 (z := p + 1 + 2) dPicture_init_16 qn_Picture_18 rfl (Nat.le_of_ble_eq_true rfl) (Nat.le_of_ble_eq_true rfl) ?_
  refine go_dup dPicture_init_19 rfl ?_
  refine go_initI dPicture_init_20 ok_mTags_init im_mTags_init ok_mTags_init.1.1 (Or.inr qN_Picture_20) (i_Tags (pmU_s _ _ _)) (fun hx2 d2 q2 => ?_)
  refine go_putF dPicture_init_23 qf_Picture_21 pw_3_1 rfl ((q2.2 _ (by omega)).trans ((pmU_n _ _ (by omega)).trans (pmU_s _ _ _))) rfl rfl ?_
  refine go_aload_n dPicture_init_26 rfl ?_
  refine go_new1 (z := p + 1 + 2 + 2) dPicture_init_27 qn_Picture_25 rfl (Nat.le_of_ble_eq_true rfl) (Nat.le_of_ble_eq_true rfl) ?_
  refine go_dup dPicture_init_30 rfl ?_
  refine go_initI dPicture_init_31 ok_mExtras_init im_mExtras_init ok_mExtras_init.1.1 (Or.inr qN_Picture_27) (i_Extras (pmU_s _ _ _)) (fun hx3 d3 q3 => ?_)
  refine go_putF dPicture_init_34 qf_Picture_28 pw_3_2 rfl ((q3.2 _ (by omega)).trans ((pmU_n _ _ (by omega)).trans (pmU_s _ _ _))) rfl rfl ?_
  refine go_aload_n dPicture_init_37 rfl ?_
  refine go_sipush (v := 576) dPicture_init_38 (by decide) ?_
  refine go_newI (z := p + 1 + 2 + 2 + 4) (N := 576) dPicture_init_41 rfl (by decide) (by decide) (by decide) (Nat.le_of_ble_eq_true rfl) (Nat.le_of_ble_eq_true rfl) ?_
  refine go_putF dPicture_init_43 qf_Picture_32 pw_3_3 rfl ((pmU_n _ _ (by omega)).trans (pmU_s _ _ _)) rfl rfl ?_
  refine go_aload_n dPicture_init_46 rfl ?_
  refine go_iconst (v := 1) dPicture_init_47 (by decide) ?_
  refine go_putf dPicture_init_48 qf_Picture_36 pw_3_5 (pmU_s _ _ _) rfl rfl ?_
  refine go_aload_n dPicture_init_51 rfl ?_
  refine go_iconst (v := 1) dPicture_init_52 (by decide) ?_
  refine go_putf dPicture_init_53 qf_Picture_40 pw_3_6 (pmU_s _ _ _) rfl rfl ?_
  refine go_aload_n dPicture_init_56 rfl ?_
  refine go_bipush (v := 8) dPicture_init_57 (by decide) ?_
  refine go_putf dPicture_init_59 qf_Picture_43 pw_3_7 (pmU_s _ _ _) rfl rfl ?_
  refine go_aload_n dPicture_init_62 rfl ?_
  refine go_iconst (v := 0) dPicture_init_63 (by decide) ?_
  refine go_putf dPicture_init_64 qf_Picture_46 pw_3_8 (pmU_s _ _ _) rfl rfl ?_
  refine go_aload_n dPicture_init_67 rfl ?_
  refine go_iconst (v := 1) dPicture_init_68 (by decide) ?_
  refine go_putf dPicture_init_69 qf_Picture_49 pw_3_9 (pmU_s _ _ _) rfl rfl ?_
  refine go_vret dPicture_init_72 rfl ?_ (Nat.le_of_ble_eq_true rfl) (Nat.le_of_ble_eq_true rfl)
  exact retI ⟨⟨(pmU_s _ _ _), ((((((((((((((q1.1.sm (Sm.put1 _) (by omega)).sm (Sm.put1 _) (by omega)).sm q2.2 (by omega)).sm (Sm.put1 _) (by omega)).sm (Sm.put1 _) (by omega)).sm q3.2 (by omega)).sm (Sm.put1 _) (by omega)).sm (Sm.put1 _) (by omega)).sm (Sm.put1 _) (by omega)).sm (Sm.put1 _) (by omega)).sm (Sm.put1 _) (by omega)).sm (Sm.put1 _) (by omega)).sm (Sm.put1 _) (by omega)).sm (Sm.put1 _) (by omega)), (((((((((((q2.1.sm (Sm.put1 _) (by omega)).sm (Sm.put1 _) (by omega)).sm q3.2 (by omega)).sm (Sm.put1 _) (by omega)).sm (Sm.put1 _) (by omega)).sm (Sm.put1 _) (by omega)).sm (Sm.put1 _) (by omega)).sm (Sm.put1 _) (by omega)).sm (Sm.put1 _) (by omega)).sm (Sm.put1 _) (by omega)).sm (Sm.put1 _) (by omega)), ((((((((q3.1.sm (Sm.put1 _) (by omega)).sm (Sm.put1 _) (by omega)).sm (Sm.put1 _) (by omega)).sm (Sm.put1 _) (by omega)).sm (Sm.put1 _) (by omega)).sm (Sm.put1 _) (by omega)).sm (Sm.put1 _) (by omega)).sm (Sm.put1 _) (by omega)), ⟨_, ((pmU_n _ _ (by omega)).trans ((pmU_n _ _ (by omega)).trans ((pmU_n _ _ (by omega)).trans ((pmU_n _ _ (by omega)).trans ((pmU_n _ _ (by omega)).trans ((pmU_n _ _ (by omega)).trans (pmU_s _ _ _))))))), fun _ _ _ _ _ _ => rfl⟩, by unfold okN pi0; decide⟩, (Sm.put' (Sm.put' (Sm.put' (Sm.put' (Sm.put' (Sm.put' (Sm.put' (Sm.put' ((Sm.put' (Sm.put' ((Sm.put' (Sm.put' ((Sm.put' (Sm.refl _ _ _) _ (by omega) (by omega)).trans (q1.2.sub (by omega) (by omega))) _ (by omega) (by omega)) _ (by omega) (by omega)).trans (q2.2.sub (by omega) (by omega))) _ (by omega) (by omega)) _ (by omega) (by omega)).trans (q3.2.sub (by omega) (by omega))) _ (by omega) (by omega)) _ (by omega) (by omega)) _ (by omega) (by omega)) _ (by omega) (by omega)) _ (by omega) (by omega)) _ (by omega) (by omega)) _ (by omega) (by omega)) _ (by omega) (by omega))⟩
set_option maxHeartbeats 4000000 in
theorem i_Writing {E : pmEv} {h : pmH} {w : Nat} (h0 : h w = some (pmO 6 [.null, .null, .int 0])) : Call E mWriting_init [.ref w] h (some (w + 1)) 4 1707 (RetI (fun h' => WrA h' w ((fun _ => 0, 0), (fun _ => 0, 0), 0) ∧ Sm h h' w 5) (w + 5)) := by
  refine call_of (L := [some (.ref w)]) ok_mWriting_init (Nat.le_of_ble_eq_true rfl) ?_
  refine go_aload_n dWriting_init_0 rfl ?_
  refine go_obj dWriting_init_1 qo_Writing_1 (Nat.le_of_ble_eq_true rfl) (Nat.le_of_ble_eq_true rfl) ?_
  refine go_aload_n dWriting_init_4 rfl ?_
  refine go_new0 (z := w + 1) dWriting_init_5 qn_Writing_7 rfl (Nat.le_of_ble_eq_true rfl) (Nat.le_of_ble_eq_true rfl) ?_
  refine go_dup dWriting_init_8 rfl ?_
  refine go_sipush (v := 1115) dWriting_init_9 (by decide) ?_
  refine go_initI dWriting_init_12 ok_mBytes_init im_mBytes_init ok_mBytes_init.1.1 (Or.inl qm_Writing_11) (i_Bytes (N := 1115) (by decide) (pmU_s _ _ _)) (fun hx1 d1 q1 => ?_)
  refine go_putF dWriting_init_15 qf_Writing_14 pw_6_0 rfl ((q1.2 _ (by omega)).trans ((pmU_n _ _ (by omega)).trans h0)) rfl rfl ?_
  refine go_aload_n dWriting_init_18 rfl ?_
  refine go_new0 (z := w + 1 + 2) dWriting_init_19 qn_Writing_7 rfl (Nat.le_of_ble_eq_true rfl) (Nat.le_of_ble_eq_true rfl) ?_
  refine go_dup dWriting_init_22 rfl ?_
  refine go_sipush (v := 588) dWriting_init_23 (by decide) ?_
  refine go_initI dWriting_init_26 ok_mBytes_init im_mBytes_init ok_mBytes_init.1.1 (Or.inl qm_Writing_11) (i_Bytes (N := 588) (by decide) (pmU_s _ _ _)) (fun hx2 d2 q2 => ?_)
  refine go_putF dWriting_init_29 qf_Writing_20 pw_6_1 rfl ((q2.2 _ (by omega)).trans ((pmU_n _ _ (by omega)).trans (pmU_s _ _ _))) rfl rfl ?_
  refine go_vret dWriting_init_32 rfl ?_ (Nat.le_of_ble_eq_true rfl) (Nat.le_of_ble_eq_true rfl)
  exact retI ⟨⟨(pmU_s _ _ _), ((((q1.1.sm (Sm.put1 _) (by omega)).sm (Sm.put1 _) (by omega)).sm q2.2 (by omega)).sm (Sm.put1 _) (by omega)), (q2.1.sm (Sm.put1 _) (by omega))⟩, (Sm.put' ((Sm.put' (Sm.put' ((Sm.put' (Sm.refl _ _ _) _ (by omega) (by omega)).trans (q1.2.sub (by omega) (by omega))) _ (by omega) (by omega)) _ (by omega) (by omega)).trans (q2.2.sub (by omega) (by omega))) _ (by omega) (by omega))⟩
set_option maxHeartbeats 4000000 in
theorem i_Reading {E : pmEv} {h : pmH} {r : Nat} (h0 : h r = some (pmO 4 [.null, .null, .null, .int 0, .int 0, .int 0, .int 0, .int 0, .int 0, .int 0, .int 0, .int 0, .int 0, .int 0, .int 0, .int 0])) : Call E mReading_init [.ref r] h (some (r + 1)) 14 3696 (RetI (fun h' => ReA h' r (fun _ => 0, 0) ((false, pi0), (fun _ => 0, 0), fun _ => 0) ∧ Sm h h' r 15) (r + 15)) := by
  refine call_of (L := [some (.ref r)]) ok_mReading_init (Nat.le_of_ble_eq_true rfl) ?_
  refine go_aload_n dReading_init_0 rfl ?_
  refine go_obj dReading_init_1 qo_Reading_3 (Nat.le_of_ble_eq_true rfl) (Nat.le_of_ble_eq_true rfl) ?_
  refine go_aload_n dReading_init_4 rfl ?_
  refine go_new0 (z := r + 1) dReading_init_5 qn_Reading_9 rfl (Nat.le_of_ble_eq_true rfl) (Nat.le_of_ble_eq_true rfl) ?_
  refine go_dup dReading_init_8 rfl ?_
  refine go_sipush (v := 2000) dReading_init_9 (by decide) ?_
  refine go_initI dReading_init_12 ok_mBytes_init im_mBytes_init ok_mBytes_init.1.1 (Or.inl qm_Reading_11) (i_Bytes (N := 2000) (by decide) (pmU_s _ _ _)) (fun hx1 d1 q1 => ?_)
  refine go_putF dReading_init_15 qf_Reading_14 pw_4_0 rfl ((q1.2 _ (by omega)).trans ((pmU_n _ _ (by omega)).trans h0)) rfl rfl ?_
  refine go_aload_n dReading_init_18 rfl ?_
  refine go_new3 (z := r + 1 + 2) dReading_init_19 qn_Reading_20 rfl (Nat.le_of_ble_eq_true rfl) (Nat.le_of_ble_eq_true rfl) ?_
  refine go_dup dReading_init_22 rfl ?_
  refine go_initI dReading_init_23 ok_mPicture_init im_mPicture_init ok_mPicture_init.1.1 (Or.inr qN_Reading_22) (i_Picture (pmU_s _ _ _)) (fun hx2 d2 q2 => ?_)
  refine go_putF dReading_init_26 qf_Reading_23 pw_4_1 rfl ((q2.2 _ (by omega)).trans ((pmU_n _ _ (by omega)).trans (pmU_s _ _ _))) rfl rfl ?_
  refine go_aload_n dReading_init_29 rfl ?_
  refine go_new0 (z := r + 1 + 2 + 10) dReading_init_30 qn_Reading_9 rfl (Nat.le_of_ble_eq_true rfl) (Nat.le_of_ble_eq_true rfl) ?_
  refine go_dup dReading_init_33 rfl ?_
  refine go_sipush (v := 588) dReading_init_34 (by decide) ?_
  refine go_initI dReading_init_37 ok_mBytes_init im_mBytes_init ok_mBytes_init.1.1 (Or.inl qm_Reading_11) (i_Bytes (N := 588) (by decide) (pmU_s _ _ _)) (fun hx3 d3 q3 => ?_)
  refine go_putF dReading_init_40 qf_Reading_29 pw_4_2 rfl ((q3.2 _ (by omega)).trans ((pmU_n _ _ (by omega)).trans (pmU_s _ _ _))) rfl rfl ?_
  refine go_vret dReading_init_43 rfl ?_ (Nat.le_of_ble_eq_true rfl) (Nat.le_of_ble_eq_true rfl)
  exact retI ⟨⟨(pmU_s _ _ _), (((((((q1.1.sm (Sm.put1 _) (by omega)).sm (Sm.put1 _) (by omega)).sm q2.2 (by omega)).sm (Sm.put1 _) (by omega)).sm (Sm.put1 _) (by omega)).sm q3.2 (by omega)).sm (Sm.put1 _) (by omega)), ((((q2.1.sm (Sm.put1 _) (by omega)).sm (Sm.put1 _) (by omega)).sm q3.2 (by omega)).sm (Sm.put1 _) (by omega)), (q3.1.sm (Sm.put1 _) (by omega))⟩, (Sm.put' ((Sm.put' (Sm.put' ((Sm.put' (Sm.put' ((Sm.put' (Sm.refl _ _ _) _ (by omega) (by omega)).trans (q1.2.sub (by omega) (by omega))) _ (by omega) (by omega)) _ (by omega) (by omega)).trans (q2.2.sub (by omega) (by omega))) _ (by omega) (by omega)) _ (by omega) (by omega)).trans (q3.2.sub (by omega) (by omega))) _ (by omega) (by omega))⟩
set_option maxHeartbeats 4000000 in
theorem i_PF {E : pmEv} {h : pmH} {x : Nat} (h0 : h x = some (pmO 7 [.null, .null, .null])) : Call E mPF_init [.ref x] h (some (x + 1)) 30 6526 (RetI (fun h' => PFA h' x pf0 ∧ Sm h h' x 31) (x + 31)) := by
  refine call_of (L := [some (.ref x)]) ok_mPF_init (Nat.le_of_ble_eq_true rfl) ?_
  refine go_aload_n dPF_init_0 rfl ?_
  refine go_obj dPF_init_1 qo_PF_1 (Nat.le_of_ble_eq_true rfl) (Nat.le_of_ble_eq_true rfl) ?_
  refine go_aload_n dPF_init_4 rfl ?_
  refine go_new3 (z := x + 1) dPF_init_5 qn_PF_7 rfl (Nat.le_of_ble_eq_true rfl) (Nat.le_of_ble_eq_true rfl) ?_
  refine go_dup dPF_init_8 rfl ?_
  refine go_initI dPF_init_9 ok_mPicture_init im_mPicture_init ok_mPicture_init.1.1 (Or.inr qN_PF_9) (i_Picture (pmU_s _ _ _)) (fun hx1 d1 q1 => ?_)
  refine go_putF dPF_init_12 qf_PF_10 pw_7_0 rfl ((q1.2 _ (by omega)).trans ((pmU_n _ _ (by omega)).trans h0)) rfl rfl ?_
  refine go_aload_n dPF_init_15 rfl ?_
  refine go_new6 (z := x + 1 + 10) dPF_init_16 qn_PF_16 rfl (Nat.le_of_ble_eq_true rfl) (Nat.le_of_ble_eq_true rfl) ?_
  refine go_dup dPF_init_19 rfl ?_
  refine go_initI dPF_init_20 ok_mWriting_init im_mWriting_init ok_mWriting_init.1.1 (Or.inr qN_PF_18) (i_Writing (pmU_s _ _ _)) (fun hx2 d2 q2 => ?_)
  refine go_putF dPF_init_23 qf_PF_19 pw_7_1 rfl ((q2.2 _ (by omega)).trans ((pmU_n _ _ (by omega)).trans (pmU_s _ _ _))) rfl rfl ?_
  refine go_aload_n dPF_init_26 rfl ?_
  refine go_new4 (z := x + 1 + 10 + 5) dPF_init_27 qn_PF_23 rfl (Nat.le_of_ble_eq_true rfl) (Nat.le_of_ble_eq_true rfl) ?_
  refine go_dup dPF_init_30 rfl ?_
  refine go_initI dPF_init_31 ok_mReading_init im_mReading_init ok_mReading_init.1.1 (Or.inr qN_PF_25) (i_Reading (pmU_s _ _ _)) (fun hx3 d3 q3 => ?_)
  refine go_putF dPF_init_34 qf_PF_26 pw_7_2 rfl ((q3.2 _ (by omega)).trans ((pmU_n _ _ (by omega)).trans (pmU_s _ _ _))) rfl rfl ?_
  refine go_vret dPF_init_37 rfl ?_ (Nat.le_of_ble_eq_true rfl) (Nat.le_of_ble_eq_true rfl)
  exact retI ⟨⟨(pmU_s _ _ _), (((((((q1.1.sm (Sm.put1 _) (by omega)).sm (Sm.put1 _) (by omega)).sm q2.2 (by omega)).sm (Sm.put1 _) (by omega)).sm (Sm.put1 _) (by omega)).sm q3.2 (by omega)).sm (Sm.put1 _) (by omega)), ⟨_, _, ((((q2.1.sm (Sm.put1 _) (by omega)).sm (Sm.put1 _) (by omega)).sm q3.2 (by omega)).sm (Sm.put1 _) (by omega))⟩, (q3.1.sm (Sm.put1 _) (by omega)), by decide, by decide⟩, (Sm.put' ((Sm.put' (Sm.put' ((Sm.put' (Sm.put' ((Sm.put' (Sm.refl _ _ _) _ (by omega) (by omega)).trans (q1.2.sub (by omega) (by omega))) _ (by omega) (by omega)) _ (by omega) (by omega)).trans (q2.2.sub (by omega) (by omega))) _ (by omega) (by omega)) _ (by omega) (by omega)).trans (q3.2.sub (by omega) (by omega))) _ (by omega) (by omega))⟩
