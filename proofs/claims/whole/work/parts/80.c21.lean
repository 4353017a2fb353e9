section C21
variable {G : aG} {d : Nat} {z : aZ} {hr : aR} {hi hl : aI}
set_option maxRecDepth 100000 in
set_option maxHeartbeats 4000000 in
theorem c_bedInit {a : Nat} {l w m : Int} (ha : a_is z a 0 3) : a_ct G mX0_init (d + 1) [vR a, vI l, vI w, vI m] z hr hi hl (fun r z' hr' hi' hl' => z' = z ∧ hr' = hr ∧ hl' = hl ∧ r = none ∧ hi' = up2 (up2 (up2 hi a 0 l) a 1 w) a 2 m) := by
  refine a_ct_of rfl (Nat.le_of_ble_eq_true rfl) ?_
  refine a_aload_n (n := 1) dX0_init_0 rfl rfl ?_
  refine a_objInit (n := 4) dX0_init_1 rfl oX0_1 (by omega) ha.1 (Nat.le_of_ble_eq_true rfl) ?_
  refine a_aload_n (n := 5) dX0_init_4 rfl rfl ?_
  refine a_iload_n (n := 6) dX0_init_5 rfl rfl ?_
  refine a_putI (n := 9) dX0_init_6 rfl fX0_7 rfl ha (Or.inl rfl) ?_
  refine a_aload_n (n := 10) dX0_init_9 rfl rfl ?_
  refine a_iload_n (n := 11) dX0_init_10 rfl rfl ?_
  refine a_putI (n := 14) dX0_init_11 rfl fX0_13 rfl ha (Or.inl rfl) ?_
  refine a_aload_n (n := 15) dX0_init_14 rfl rfl ?_
  refine a_iload_n (n := 16) dX0_init_15 rfl rfl ?_
  refine a_putI (n := 19) dX0_init_16 rfl fX0_16 rfl ha (Or.inr ⟨rfl, rfl, rfl⟩) ?_
  refine a_return dX0_init_19 rfl ?_
  exact ⟨rfl, rfl, rfl, rfl, rfl⟩
set_option maxRecDepth 100000 in
set_option maxHeartbeats 4000000 in
theorem c_exch22 (hz : stZ z) (hR : stR hr) (hdr : hr 17 1 = some 22) : a_ct G mX4_exchangeDraft (d + 0) [vR 17, vR 31] z hr hi hl (fun r z' hr' hi' hl' => z' = z ∧ hi' = hi ∧ hl' = hl ∧ r = some (vR 22) ∧ hr' = up2 hr 17 1 (some 31)) := by
  refine a_ct_of rfl (Nat.le_of_ble_eq_true rfl) ?_
  refine a_aload_n (n := 1) dX4_exchangeDraft_0 rfl rfl ?_
  refine a_getO (n := 4) dX4_exchangeDraft_1 rfl fX4_21 (s17 hz) ?_
  rw [hdr]
  refine b_astore_n (n := 5) dX4_exchangeDraft_4 rfl (by decide) rfl ?_
  refine a_aload_n (n := 6) dX4_exchangeDraft_5 rfl rfl ?_
  refine a_aload_n (n := 7) dX4_exchangeDraft_6 rfl rfl ?_
  refine a_putO (n := 10) dX4_exchangeDraft_7 rfl fX4_21 (s17 hz) (Or.inl rfl) ?_
  refine a_aload_n (n := 11) dX4_exchangeDraft_10 rfl rfl ?_
  refine a_areturn dX4_exchangeDraft_11 rfl ?_
  exact ⟨rfl, rfl, rfl, rfl, rfl⟩
set_option maxRecDepth 100000 in
set_option maxHeartbeats 4000000 in
theorem c_exch31 (hz : stZ z) (hR : stR hr) (hdr : hr 17 1 = some 31) : a_ct G mX4_exchangeDraft (d + 0) [vR 17, vR 22] z hr hi hl (fun r z' hr' hi' hl' => z' = z ∧ hi' = hi ∧ hl' = hl ∧ r = some (vR 31) ∧ hr' = up2 hr 17 1 (some 22)) := by
  refine a_ct_of rfl (Nat.le_of_ble_eq_true rfl) ?_
  refine a_aload_n (n := 1) dX4_exchangeDraft_0 rfl rfl ?_
  refine a_getO (n := 4) dX4_exchangeDraft_1 rfl fX4_21 (s17 hz) ?_
  rw [hdr]
  refine b_astore_n (n := 5) dX4_exchangeDraft_4 rfl (by decide) rfl ?_
  refine a_aload_n (n := 6) dX4_exchangeDraft_5 rfl rfl ?_
  refine a_aload_n (n := 7) dX4_exchangeDraft_6 rfl rfl ?_
  refine a_putO (n := 10) dX4_exchangeDraft_7 rfl fX4_21 (s17 hz) (Or.inl rfl) ?_
  refine a_aload_n (n := 11) dX4_exchangeDraft_10 rfl rfl ?_
  refine a_areturn dX4_exchangeDraft_11 rfl ?_
  exact ⟨rfl, rfl, rfl, rfl, rfl⟩
end C21
