/-! part 99u: the claim out of one walk of the law's body -/
theorem dn_295_0 : decode (mth 295).2.1 0 = .ok (.new 7, 3) := by decide +kernel
theorem dn_295_3 : decode (mth 295).2.1 3 = .ok (.dup, 1) := by decide +kernel
theorem dn_295_4 : decode (mth 295).2.1 4 = .ok (.invokespecial 9, 3) := by decide +kernel
theorem dn_295_7 : decode (mth 295).2.1 7 = .ok (.astore_n 1, 1) := by decide +kernel
theorem dn_295_8 : decode (mth 295).2.1 8 = .ok (.new 10, 3) := by decide +kernel
theorem dn_295_11 : decode (mth 295).2.1 11 = .ok (.dup, 1) := by decide +kernel
theorem dn_295_12 : decode (mth 295).2.1 12 = .ok (.invokespecial 12, 3) := by decide +kernel
theorem dn_295_15 : decode (mth 295).2.1 15 = .ok (.astore_n 2, 1) := by decide +kernel
theorem dn_295_16 : decode (mth 295).2.1 16 = .ok (.iconst 0, 1) := by decide +kernel
theorem dn_295_17 : decode (mth 295).2.1 17 = .ok (.istore_n 3, 1) := by decide +kernel
/-- from the entry to the loop -/
theorem k_law {X : KX} (hX : nmK X = 101) (k : K X 300 295 18 [some (.ref 999), some (.ref 0), some (.ref 84), some (.int (nI 0))] [] hF 101) : K X 300 295 0 [some (.ref 999), none, none, none] [] zH 0 := by
  refine k_newl (ci := 8) (n' := 1) dn_295_0 wt_cl7 (cls_ins 8 (by decide)) wt_ipt rfl (by rw [hX]; decide) rfl ?_
  refine k_dup dn_295_3 rfl ?_
  refine k_callI (mj := 0) (As := []) (t := [.ref 0]) dn_295_4 wd_0 mo_0 mc_0 wt_ipt wt_imp rfl rfl rfl (by decide) (Nat.le_of_ble_eq_true rfl) (by rw [hX]; decide) (n_0_0 _) ?_
  refine k_astl (lv' := [some (.ref 999), some (.ref 0), none, none]) dn_295_7 rfl (Nat.le_of_ble_eq_true rfl) rfl rfl ?_
  refine k_newl (ci := 9) (n' := 85) dn_295_8 wt_cl10 (cls_ins 9 (by decide)) wt_imo rfl (by rw [hX]; decide) rfl ?_
  refine k_dup dn_295_11 rfl ?_
  refine k_callI (mj := 175) (As := []) (t := [.ref 84]) dn_295_12 wd_353 mo_175 mc_175 wt_imo wt_imm rfl rfl rfl (by decide) (Nat.le_of_ble_eq_true rfl) (by rw [hX]; decide) (n_175_84 _) ?_
  refine k_astl (lv' := [some (.ref 999), some (.ref 0), some (.ref 84), none]) dn_295_15 rfl (Nat.le_of_ble_eq_true rfl) rfl rfl ?_
  refine k_iconst (v := nI 0) dn_295_16 rfl ?_
  refine k_istl (lv' := [some (.ref 999), some (.ref 0), some (.ref 84), some (.int (nI 0))]) dn_295_17 rfl (Nat.le_of_ble_eq_true rfl) rfl rfl ?_
  exact k
