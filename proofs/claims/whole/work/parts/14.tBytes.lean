theorem c_Bytes_has {E : pmEv} {h : pmH} {z : Option Nat} {b v : Nat} {cnt i : Int32} (hb : h b = some (pmO 0 [.ref v, .int cnt])) : Call E mBytes_has [.ref b, .int i] h z 0 0 (Ret (some (.int (bI (0 ≤ i ∧ i < cnt)))) (h, z, false)) := by
  refine call_of (L := [some (.ref b), some (.int i)]) ok_mBytes_has (Nat.le_of_ble_eq_true rfl) ?_
  refine go_iload_n dBytes_has_0 rfl ?_
  refine go_if_lt (tgt := 16) dBytes_has_1 (fun c1 => ?_) (fun c1 => ?_)
  · refine go_iconst (v := 0) dBytes_has_16 (by decide) ?_
    refine go_iret dBytes_has_17 rfl rfl ?_ (Nat.le_of_ble_eq_true rfl) (Nat.le_of_ble_eq_true rfl)
    first | exact ret_bf (fun q => absurd q.1 (Int32.not_le.mpr c1)) | exact ret_bf (fun q => absurd q.2 (Int32.not_lt.mpr c2))
  · refine go_iload_n dBytes_has_4 rfl ?_
    refine go_aload_n dBytes_has_5 rfl ?_
    refine go_getf dBytes_has_6 qf_Bytes_13 hb rfl ?_
    refine go_icmp_ge (tgt := 16) dBytes_has_9 (fun c2 => ?_) (fun c2 => ?_)
    · refine go_iconst (v := 0) dBytes_has_16 (by decide) ?_
      refine go_iret dBytes_has_17 rfl rfl ?_ (Nat.le_of_ble_eq_true rfl) (Nat.le_of_ble_eq_true rfl)
      first | exact ret_bf (fun q => absurd q.1 (Int32.not_le.mpr c1)) | exact ret_bf (fun q => absurd q.2 (Int32.not_lt.mpr c2))
    · refine go_iconst (v := 1) dBytes_has_12 (by decide) ?_
      refine go_goto (tgt := 17) dBytes_has_13 ?_
      refine go_iret dBytes_has_17 rfl rfl ?_ (Nat.le_of_ble_eq_true rfl) (Nat.le_of_ble_eq_true rfl)
      exact ret_bt ⟨Int32.not_lt.mp c1, Int32.not_le.mp c2⟩
