/-! ===== Bytes: first methods ===== -/
theorem c_Bytes_has {E : pmEv} {h : pmH} {z : Option Nat} {b v : Nat} {cnt i : Int32} (hb : h b = some (pmO 0 [.ref v, .int cnt])) : Call E mBytes_has [.ref b, .int i] h z 0 0 (Ret (some (.int (bI (0 ≤ i ∧ i < cnt)))) (h, z, false)) := by
  refine call_of ok_mBytes_has (by decide) ?_
  refine go_iload_n dBytes_has_0 rfl ?_
  refine go_if_lt (tgt := 16) dBytes_has_1 (fun c1 => ?_) (fun c1 => ?_)
  · refine go_iconst dBytes_has_16 rfl ?_
    exact go_iret dBytes_has_17 rfl rfl ⟨by rw [bI_f]; · rfl
                                         · intro q; exact absurd q.1 (Int32.not_le.mpr c1), rfl⟩ (by decide) (by decide)
  · refine go_iload_n dBytes_has_4 rfl ?_
    refine go_aload_n dBytes_has_5 rfl ?_
    refine go_getf dBytes_has_6 qf_Bytes_13 hb rfl ?_
    refine go_icmp_ge (tgt := 16) dBytes_has_9 (fun c2 => ?_) (fun c2 => ?_)
    · refine go_iconst dBytes_has_16 rfl ?_
      exact go_iret dBytes_has_17 rfl rfl ⟨by rw [bI_f]; · rfl
                                           · intro q; exact absurd q.2 (Int32.not_lt.mpr c2), rfl⟩ (by decide) (by decide)
    · refine go_iconst dBytes_has_12 rfl ?_
      refine go_goto (tgt := 17) dBytes_has_13 ?_
      exact go_iret dBytes_has_17 rfl rfl ⟨by rw [bI_t]; · rfl
                                           · exact ⟨Int32.not_lt.mp c1, Int32.not_le.mp c2⟩, rfl⟩ (by decide) (by decide)
