-- the reference: then
set_option maxHeartbeats 4000000 in
set_option maxRecDepth 20000 in
theorem qX10_then_f (l : Launch) (g : GT) (M : Mem) (t w : Int32) (hf : ((decide (0 ≤ t) && decide (t ≤ 60)) && (decide (0 ≤ w) && decide (w ≤ 1))) = false) : CtrE l g yX10_then cX10_then 4 (some .int) 1 [.ref (ga g 91), .int t, .int w] M (-1000000001) (mu M 95 1 (M 95 1 + 1)) := by
  refine ctrI_of (by decide +kernel) (Nat.le_of_ble_eq_true rfl) ?_
  intro pP eE RR sS mI aG bB mE cD C
  refine k_lo (lo' := [(0, .ref (ga g 91)), (1, .int t), (2, .int w)]) rfl ?_
  refine k_iload_n C 1 1 rfl rfl dX10_then_0 rfl ?_
  refine k_iconst C 2 (v := 0) (by decide) dX10_then_1 rfl ?_
  refine k_bipush C 4 (v := 60) (by decide) dX10_then_2 rfl ?_
  refine k_callSE C 7 (As := [.int t, .int 0, .int 60]) (st := []) mwX10_54 skX10_in (qX10_in l g M t 0 60) mlX10_in (by decide) (by decide) rfl rfl (Nat.le_of_ble_eq_true rfl) dX10_then_4 rfl ?_
  refine k_if_eqB C 19 10 dX10_then_7 (by decide) rfl (fun c7 => ?_) (fun d7 => ?_)
  · skip
    refine k_aload_n C 20 0 rfl rfl dX10_then_19 rfl ?_
    refine k_ldc C 22 cwX10_94 dX10_then_20 rfl ?_
    refine k_callVE C 25 (As := [.int (-1000000001)]) (st := []) 91 (by decide) (ce_91 g _) rfl rfl mwX10_95 vlX10_error (qX10_error l g M (-1000000001) (k := 1) (by decide) (by decide)) mlX10_error (by decide) (by decide) rfl rfl (Nat.le_of_ble_eq_true rfl) dX10_then_22 rfl ?_
    refine k_ret C rfl dX10_then_25 ?_
    exact ⟨rfl, rfl⟩
  · skip
    refine k_iload_n C 11 2 rfl rfl dX10_then_10 rfl ?_
    refine k_iconst C 12 (v := 0) (by decide) dX10_then_11 rfl ?_
    refine k_iconst C 13 (v := 1) (by decide) dX10_then_12 rfl ?_
    refine k_callSE C 16 (As := [.int w, .int 0, .int 1]) (st := []) mwX10_54 skX10_in (qX10_in l g M w 0 1) mlX10_in (by decide) (by decide) rfl rfl (Nat.le_of_ble_eq_true rfl) dX10_then_13 rfl ?_
    refine k_if_neB C 26 19 dX10_then_16 (by decide) rfl (fun c16 => ?_) (fun d16 => ?_)
    · skip
      exact (bz hf (by simp [d7, c16])).elim
    · skip
      refine k_aload_n C 20 0 rfl rfl dX10_then_19 rfl ?_
      refine k_ldc C 22 cwX10_94 dX10_then_20 rfl ?_
      refine k_callVE C 25 (As := [.int (-1000000001)]) (st := []) 91 (by decide) (ce_91 g _) rfl rfl mwX10_95 vlX10_error (qX10_error l g M (-1000000001) (k := 1) (by decide) (by decide)) mlX10_error (by decide) (by decide) rfl rfl (Nat.le_of_ble_eq_true rfl) dX10_then_22 rfl ?_
      refine k_ret C rfl dX10_then_25 ?_
      exact ⟨rfl, rfl⟩
set_option maxHeartbeats 4000000 in
set_option maxRecDepth 20000 in
theorem qX10_then_t (l : Launch) (g : GT) (M : Mem) {n : Nat} (hn : M 92 2 = nI n) (h12 : n ≤ 12) {t w : Nat} (h60 : t ≤ 60) (hw : w < 2) : CtrI l g yX10_then cX10_then 4 (some .int) 6 [.ref (ga g 91), .int (nI t), .int (nI w)] M (fun r M2 => ∃ M1, goesN n (M 92 3) t (mrow M 94 (cpA 416 (M 92) (M 94))) M1 ∧ M2 = mrow M1 92 (cpA 416 (M1 94) (M1 92)) ∧ r = if w = 0 then nI (popc (pSet (mF M1) n)) else nI (pSet (mF M1) n)) := by
  refine ctrI_of (by decide +kernel) (Nat.le_of_ble_eq_true rfl) ?_
  intro pP eE RR sS mI aG bB mE cD C
  refine k_lo (lo' := [(0, .ref (ga g 91)), (1, .int (nI t)), (2, .int (nI w))]) rfl ?_
  refine k_iload_n C 1 1 rfl rfl dX10_then_0 rfl ?_
  refine k_iconst C 2 (v := 0) (by decide) dX10_then_1 rfl ?_
  refine k_bipush C 4 (v := 60) (by decide) dX10_then_2 rfl ?_
  refine k_callSE C 7 (As := [.int (nI t), .int 0, .int 60]) (st := []) mwX10_54 skX10_in (qX10_in l g M (nI t) 0 60) mlX10_in (by decide) (by decide) rfl rfl (Nat.le_of_ble_eq_true rfl) dX10_then_4 rfl ?_
  refine k_if_eqB C 19 10 dX10_then_7 (by decide) rfl (fun c7 => ?_) (fun d7 => ?_)
  · skip
    exact (bz c7 (rg_le (a := 0) (b := 60) (Nat.zero_le _) h60 (by decide))).elim
  · skip
    refine k_iload_n C 11 2 rfl rfl dX10_then_10 rfl ?_
    refine k_iconst C 12 (v := 0) (by decide) dX10_then_11 rfl ?_
    refine k_iconst C 13 (v := 1) (by decide) dX10_then_12 rfl ?_
    refine k_callSE C 16 (As := [.int (nI w), .int 0, .int 1]) (st := []) mwX10_54 skX10_in (qX10_in l g M (nI w) 0 1) mlX10_in (by decide) (by decide) rfl rfl (Nat.le_of_ble_eq_true rfl) dX10_then_13 rfl ?_
    refine k_if_neB C 26 19 dX10_then_16 (by decide) rfl (fun c16 => ?_) (fun d16 => ?_)
    · skip
      refine k_aload_n C 27 0 rfl rfl dX10_then_26 rfl ?_
      refine k_callVU C 30 (As := []) (st := []) 91 (by decide) (ce_91 g _) rfl rfl mwX10_203 vlX10_thinks (qX10_thinks l g M) mlX10_thinks (by decide) (by decide) rfl rfl (Nat.le_of_ble_eq_true rfl) dX10_then_27 rfl ?_
      refine k_iconst C 31 (v := 0) (by decide) dX10_then_30 rfl ?_
      refine k_istore_n C 32 [(3, .int 0), (0, .ref (ga g 91)), (1, .int (nI t)), (2, .int (nI w))] rfl (by decide) rfl dX10_then_31 rfl ?_
      refine k_sub [(0, .ref (ga g 91)), (1, .int (nI t)), (2, .int (nI w)), (3, .int 0)] [1, 2, 3, 0] rfl ?_
      refine k_all (M' := (mrow M 94 (cpA 416 (M 92) (M 94)))) (lo' := [(0, .ref (ga g 91)), (1, .int (nI t)), (2, .int (nI w)), (3, .int (nI 0))]) (st' := []) (by rfl) (by rfl) rfl ?_
      refine k_loop (σ := Nat × Mem) (fun (v : Nat × Mem) => match v with | (k, M1) => (k ≤ t) ∧ (goesN n (M 92 3) k (mrow M 94 (cpA 416 (M 92) (M 94))) M1)) (fun (v : Nat × Mem) => match v with | (k, M1) => t - k) (fun (v : Nat × Mem) => match v with | (k, M1) => M1) (fun (v : Nat × Mem) => match v with | (k, M1) => [(0, .ref (ga g 91)), (1, .int (nI t)), (2, .int (nI w)), (3, .int (nI k))]) (0, mrow M 94 (cpA 416 (M 92) (M 94))) (show (0 ≤ t) ∧ (goesN n (M 92 3) 0 (mrow M 94 (cpA 416 (M 92) (M 94))) (mrow M 94 (cpA 416 (M 92) (M 94)))) from by exact ⟨Nat.zero_le _, rfl⟩) ?_
      rintro ⟨k, M1⟩ hI ih
      have hI : (k ≤ t) ∧ (goesN n (M 92 3) k (mrow M 94 (cpA 416 (M 92) (M 94))) M1) := hI
      obtain ⟨hk, hG⟩ := hI
      show KW pP l eE RR sS mI aG bB mE cD g 4 _ (M1) 32 [(0, .ref (ga g 91)), (1, .int (nI t)), (2, .int (nI w)), (3, .int (nI k))] []
      refine k_iload_n C 33 3 rfl rfl dX10_then_32 rfl ?_
      refine k_iload_n C 34 1 rfl rfl dX10_then_33 rfl ?_
      refine k_icmp_ge C 47 37 dX10_then_34 (by decide) rfl (fun c34 => ?_) (fun d34 => ?_)
      · skip
        have c34 := (nI_leI (by omega) (by omega)).mp (show nI t ≤ nI k from c34)
        refine k_aload_n C 48 0 rfl rfl dX10_then_47 rfl ?_
        refine k_callVE C 51 (As := []) (st := []) 91 (by decide) (ce_91 g _) rfl rfl mwX10_184 vlX10_seen (qX10_seen l g M1 (n := n) (by rw [goesN_at hG 2 (by omega) (by decide), mrow_n _ _ (by decide)]; exact hn) h12) mlX10_seen (by decide) (by decide) rfl rfl (Nat.le_of_ble_eq_true rfl) dX10_then_48 rfl ?_
        refine k_istore_n C 52 [(3, .int (nI (pSet (mF M1) n))), (0, .ref (ga g 91)), (1, .int (nI t)), (2, .int (nI w))] rfl (by decide) rfl dX10_then_51 rfl ?_
        refine k_aload_n C 53 1 rfl rfl dX10_then_52 rfl ?_
        refine k_callVU C 56 (As := []) (st := []) 91 (by decide) (ce_91 g _) rfl rfl mwX10_206 vlX10_putsBack (qX10_putsBack l g M1) mlX10_putsBack (by decide) (by decide) rfl rfl (Nat.le_of_ble_eq_true rfl) dX10_then_53 rfl ?_
        refine k_iload_n C 57 3 rfl rfl dX10_then_56 rfl ?_
        refine k_if_ne C 67 60 dX10_then_57 (by decide) rfl (fun c57 => ?_) (fun d57 => ?_)
        · skip
          have c57 := mt (nI_eq (by omega) (by omega)).mpr (show ¬ (nI w = nI 0) from c57)
          refine k_iload_n C 68 0 rfl rfl dX10_then_67 rfl ?_
          refine k_ret C rfl dX10_then_68 ?_
          have e : k = t := by omega
          subst e
          exact ⟨M1, hG, rfl, (if_neg (show ¬ w = 0 by omega)).symm⟩
        · skip
          have d57 := (nI_eq (by omega) (by omega)).mp (show nI w = nI 0 from d57)
          refine k_iload_n C 61 0 rfl rfl dX10_then_60 rfl ?_
          refine k_callSE C 64 (As := [.int (nI (pSet (mF M1) n))]) (st := []) mwX10_187 skX10_bits (qX10_bits l g (mrow M1 92 (cpA 416 (M1 94) (M1 92))) (m := pSet (mF M1) n) (Nat.lt_of_lt_of_le (pSet_lt _ _) (Nat.pow_le_pow_right (by decide) h12))) mlX10_bits (by decide) (by decide) rfl rfl (Nat.le_of_ble_eq_true rfl) dX10_then_61 rfl ?_
          refine k_goto C 68 dX10_then_64 (by decide) ?_
          refine k_ret C rfl dX10_then_68 ?_
          have e : k = t := by omega
          subst e
          exact ⟨M1, hG, rfl, (if_pos (show w = 0 by omega)).symm⟩
      · skip
        have d34 := mt (nI_leI (by omega) (by omega)).mpr (show ¬ (nI t ≤ nI k) from d34)
        refine k_aload_n C 38 0 rfl rfl dX10_then_37 rfl ?_
        refine k_callVV C 41 (As := []) (st := []) 91 (by decide) (ce_91 g _) rfl rfl mwX10_181 vlX10_goes (qX10_goes l g M1 (n := n) (by rw [goesN_at hG 2 (by omega) (by decide), mrow_n _ _ (by decide)]; exact hn) h12) mlX10_goes (by decide) (by decide) rfl rfl (Nat.le_of_ble_eq_true rfl) dX10_then_38 rfl (fun M2 h2 => ?_)
        refine k_iinc C 44 (nI (k + 1)) 3 [(3, .int (nI (k + 1))), (0, .ref (ga g 91)), (1, .int (nI t)), (2, .int (nI w))] rfl (iinc_p k) (by decide) rfl dX10_then_41 rfl ?_
        refine k_goto C 32 dX10_then_44 (by decide) ?_
        refine k_sub [(0, .ref (ga g 91)), (1, .int (nI t)), (2, .int (nI w)), (3, .int (nI (k + 1)))] [1, 2, 3, 0] rfl ?_
        refine k_all (M' := M2) (lo' := [(0, .ref (ga g 91)), (1, .int (nI t)), (2, .int (nI w)), (3, .int (nI (k + 1)))]) (st' := []) (by rfl) (by rfl) rfl ?_
        exact ih (k + 1, M2) (show ((k + 1) ≤ t) ∧ (goesN n (M 92 3) (k + 1) (mrow M 94 (cpA 416 (M 92) (M 94))) M2) from by exact ⟨by omega, M1, hG, by rw [goesN_at hG 3 (by omega) (by decide), mrow_n _ _ (show (92 : Nat) ≠ 94 by decide)] at h2; exact h2⟩) (by show t - (k + 1) < t - k; omega)
    · skip
      exact (bz d16 (rg_le (a := 0) (b := 1) (Nat.zero_le _) (by omega) (by decide))).elim
