-- the class: Field, what it answers
set_option maxHeartbeats 4000000 in
set_option maxRecDepth 20000 in
theorem qX1_echoes (l : Launch) (g : GT) (M : Mem) {fi : Nat} (hfi : fi < 3) {a b : Nat} (ha : a < 12) (hb : b < 12) : CtrE l g yX1_echoes cX1_echoes 3 (some .boolean) 2 [.ref (ga g (37 + fi)), .int (nI a), .int (nI b)] M (b2i (pAns (fF M fi a) (fF M fi b))) M := by
  refine ctrI_of (by decide +kernel) (Nat.le_of_ble_eq_true rfl) ?_
  intro pP eE RR sS mI aG bB mE cD C
  refine k_lo (lo' := [(0, .ref (ga g (37 + fi))), (1, .int (nI a)), (2, .int (nI b))]) rfl ?_
  refine k_aload_n C 1 0 rfl rfl dX1_echoes_0 rfl ?_
  refine k_get C 4 flX1_11 (37 + fi) (lt105_fld hfi) (v := .ref (ga g (40 + fi))) (ce_fld g _ hfi) rfl dX1_echoes_1 rfl ?_
  refine k_iload_n C 5 1 rfl rfl dX1_echoes_4 rfl ?_
  refine k_aald C 6 (40 + fi) a 3 (lt105_fa hfi) (ce_fa g _ hfi) rfl (by decide) rfl (by omega) dX1_echoes_5 rfl ?_
  refine k_st (st' := [.ref (ga g (12 * fi + a))]) rfl ?_
  refine k_aload_n C 7 0 rfl rfl dX1_echoes_6 rfl ?_
  refine k_get C 10 flX1_11 (37 + fi) (lt105_fld hfi) (v := .ref (ga g (40 + fi))) (ce_fld g _ hfi) rfl dX1_echoes_7 rfl ?_
  refine k_iload_n C 11 2 rfl rfl dX1_echoes_10 rfl ?_
  refine k_aald C 12 (40 + fi) b 3 (lt105_fa hfi) (ce_fa g _ hfi) rfl (by decide) rfl (by omega) dX1_echoes_11 rfl ?_
  refine k_st (st' := [.ref (ga g (12 * fi + b)), .ref (ga g (12 * fi + a))]) rfl ?_
  refine k_callVE C 15 (As := [.ref (ga g (12 * fi + b))]) (st := []) (12 * fi + a) (lt105_fu (fu_lt hfi (by omega))) (ce_fu g _ (fu_lt hfi (by omega))) rfl rfl mwX1_45 vlX2_echoes (qX2_echoes l g M (fu_lt hfi (by omega)) (fu_lt hfi (by omega))) mlX2_echoes (by decide) (by decide) rfl rfl (Nat.le_of_ble_eq_true rfl) dX1_echoes_12 rfl ?_
  refine k_ret C (nar_b2i _) dX1_echoes_15 ?_
  exact ⟨rfl, rfl⟩
set_option maxHeartbeats 4000000 in
set_option maxRecDepth 20000 in
theorem qX1_seenAhead (l : Launch) (g : GT) (M : Mem) {fi : Nat} (hfi : fi < 3) {q : Nat} (hq : q ≤ 12) : CtrE l g yX1_seenAhead cX1_seenAhead 3 (some .int) 0 [.ref (ga g (37 + fi)), .int (nI q)] M (oI (pAhead (fF M fi) q)) M := by
  refine ctrI_of (by decide +kernel) (Nat.le_of_ble_eq_true rfl) ?_
  intro pP eE RR sS mI aG bB mE cD C
  refine k_lo (lo' := [(0, .ref (ga g (37 + fi))), (1, .int (nI q))]) rfl ?_
  refine k_iload_n C 1 1 rfl rfl dX1_seenAhead_0 rfl ?_
  refine k_iconst C 2 (v := 1) (by decide) dX1_seenAhead_1 rfl ?_
  refine k_isub C 3 dX1_seenAhead_2 rfl ?_
  refine k_istore_n C 4 [(2, .int ((nI q) - 1)), (0, .ref (ga g (37 + fi))), (1, .int (nI q))] rfl (by decide) rfl dX1_seenAhead_3 rfl ?_
  refine k_sub [(0, .ref (ga g (37 + fi))), (2, .int ((nI q) - 1))] [1, 0] rfl ?_
  refine k_all (M' := M) (lo' := [(0, .ref (ga g (37 + fi))), (2, .int (nI q - 1))]) (st' := []) (by rfl) (by rfl) rfl ?_
  refine k_loop (σ := Nat) (fun (j : Nat) => (j ≤ q) ∧ (pAhead (fF M fi) q = pAhead (fF M fi) j)) (fun (j : Nat) => j) (fun (j : Nat) => M) (fun (j : Nat) => [(0, .ref (ga g (37 + fi))), (2, .int (nI j - 1))]) q (show (q ≤ q) ∧ (pAhead (fF M fi) q = pAhead (fF M fi) q) from by exact ⟨Nat.le_refl _, rfl⟩) ?_
  rintro j hI ih
  have hI : (j ≤ q) ∧ (pAhead (fF M fi) q = pAhead (fF M fi) j) := hI
  obtain ⟨hj, he⟩ := hI
  show KW pP l eE RR sS mI aG bB mE cD g 3 _ (M) 4 [(0, .ref (ga g (37 + fi))), (2, .int (nI j - 1))] []
  cases j with
  | zero =>
    refine k_lo (lo' := [(0, .ref (ga g (37 + fi))), (2, .int (-1))]) (by rw [show nI 0 - 1 = (-1 : Int32) by decide]) ?_
    refine k_iload_n C 5 1 rfl rfl dX1_seenAhead_4 rfl ?_
    refine k_if_lt C 26 8 dX1_seenAhead_5 (by decide) rfl (fun c5 => ?_) (fun d5 => ?_)
    · skip
      refine k_iload_n C 27 1 rfl rfl dX1_seenAhead_26 rfl ?_
      refine k_ret C rfl dX1_seenAhead_27 ?_
      first | exact ⟨by rw [he]; rfl, rfl⟩ | exact ⟨by rw [he]; simp [pAhead, fF, c17, oI], rfl⟩
    · skip
      exact absurd d5 (by decide)
  | succ j =>
    refine k_lo (lo' := [(0, .ref (ga g (37 + fi))), (2, .int (nI j))]) (by rw [nI_pred]) ?_
    refine k_iload_n C 5 1 rfl rfl dX1_seenAhead_4 rfl ?_
    refine k_if_lt C 26 8 dX1_seenAhead_5 (by decide) rfl (fun c5 => ?_) (fun d5 => ?_)
    · skip
      have c5 := (nI_ltI (by omega) (by omega)).mp (show nI j < nI 0 from c5)
      exact absurd c5 (by omega)
    · skip
      have d5 := mt (nI_ltI (by omega) (by omega)).mpr (show ¬ (nI j < nI 0) from d5)
      refine k_aload_n C 9 0 rfl rfl dX1_seenAhead_8 rfl ?_
      refine k_get C 12 flX1_11 (37 + fi) (lt105_fld hfi) (v := .ref (ga g (40 + fi))) (ce_fld g _ hfi) rfl dX1_seenAhead_9 rfl ?_
      refine k_iload_n C 13 1 rfl rfl dX1_seenAhead_12 rfl ?_
      refine k_aald C 14 (40 + fi) j 3 (lt105_fa hfi) (ce_fa g _ hfi) rfl (by decide) rfl (by omega) dX1_seenAhead_13 rfl ?_
      refine k_st (st' := [.ref (ga g (12 * fi + j))]) rfl ?_
      refine k_get C 17 flX1_41 (12 * fi + j) (lt105_fu (fu_lt hfi (by omega))) (v := .int ((M) (12 * fi + j) 6)) (ce_fu g _ (fu_lt hfi (by omega))) rfl dX1_seenAhead_14 rfl ?_
      refine k_if_eq C 26 20 dX1_seenAhead_17 (by decide) rfl (fun c17 => ?_) (fun d17 => ?_)
      · skip
        refine k_iload_n C 27 1 rfl rfl dX1_seenAhead_26 rfl ?_
        refine k_ret C rfl dX1_seenAhead_27 ?_
        first | exact ⟨by rw [he]; rfl, rfl⟩ | exact ⟨by rw [he]; simp [pAhead, fF, c17, oI], rfl⟩
      · skip
        refine k_iinc C 23 (nI j - 1) 1 [(2, .int (nI j - 1)), (0, .ref (ga g (37 + fi)))] rfl (iinc_m _) (by decide) rfl dX1_seenAhead_20 rfl ?_
        refine k_goto C 4 dX1_seenAhead_23 (by decide) ?_
        refine k_sub [(0, .ref (ga g (37 + fi))), (2, .int (nI j - 1))] [1, 0] rfl ?_
        refine k_all (M' := M) (lo' := [(0, .ref (ga g (37 + fi))), (2, .int (nI j - 1))]) (st' := []) (by rfl) (by rfl) rfl ?_
        exact ih j (show (j ≤ q) ∧ (pAhead (fF M fi) q = pAhead (fF M fi) j) from by exact ⟨by omega, by rw [he]; simp [pAhead, fF, d17]⟩) (by show j < _; omega)
set_option maxHeartbeats 4000000 in
set_option maxRecDepth 20000 in
theorem qX1_isHeard (l : Launch) (g : GT) (M : Mem) {fi : Nat} (hfi : fi < 3) {n : Nat} (hn : M (37 + fi) 1 = nI n) (h12 : n ≤ 12) {f : Nat} (hf : f < n) : CtrE l g yX1_isHeard cX1_isHeard 3 (some .boolean) 3 [.ref (ga g (37 + fi)), .int (nI f)] M (b2i (pHeard (fF M fi) n f)) M := by
  refine ctrI_of (by decide +kernel) (Nat.le_of_ble_eq_true rfl) ?_
  intro pP eE RR sS mI aG bB mE cD C
  refine k_lo (lo' := [(0, .ref (ga g (37 + fi))), (1, .int (nI f))]) rfl ?_
  refine k_iload_n C 1 1 rfl rfl dX1_isHeard_0 rfl ?_
  refine k_iconst C 2 (v := 1) (by decide) dX1_isHeard_1 rfl ?_
  refine k_iadd C 3 dX1_isHeard_2 rfl ?_
  refine k_teq (nI_add f 1) ?_
  refine k_istore_n C 4 [(2, .int (nI (f + 1))), (0, .ref (ga g (37 + fi))), (1, .int (nI f))] rfl (by decide) rfl dX1_isHeard_3 rfl ?_
  refine k_sub [(0, .ref (ga g (37 + fi))), (1, .int (nI f)), (2, .int (nI (f + 1)))] [1, 2, 0] rfl ?_
  refine k_all (M' := M) (lo' := [(0, .ref (ga g (37 + fi))), (1, .int (nI f)), (2, .int (nI (f + 1)))]) (st' := []) (by rfl) (by rfl) rfl ?_
  refine k_loop (σ := Nat) (fun (k : Nat) => (k ≤ n) ∧ (f + 1 ≤ k) ∧ (pNx (fF M fi) (n - (f + 1)) (f + 1) = pNx (fF M fi) (n - k) k)) (fun (k : Nat) => n - k) (fun (k : Nat) => M) (fun (k : Nat) => [(0, .ref (ga g (37 + fi))), (1, .int (nI f)), (2, .int (nI k))]) (f + 1) (show ((f + 1) ≤ n) ∧ (f + 1 ≤ (f + 1)) ∧ (pNx (fF M fi) (n - (f + 1)) (f + 1) = pNx (fF M fi) (n - (f + 1)) (f + 1)) from by exact ⟨by omega, by omega, rfl⟩) ?_
  rintro k hI ih
  have hI : (k ≤ n) ∧ (f + 1 ≤ k) ∧ (pNx (fF M fi) (n - (f + 1)) (f + 1) = pNx (fF M fi) (n - k) k) := hI
  obtain ⟨hk, hk2, he⟩ := hI
  show KW pP l eE RR sS mI aG bB mE cD g 3 _ (M) 4 [(0, .ref (ga g (37 + fi))), (1, .int (nI f)), (2, .int (nI k))] []
  refine k_iload_n C 5 2 rfl rfl dX1_isHeard_4 rfl ?_
  refine k_aload_n C 6 0 rfl rfl dX1_isHeard_5 rfl ?_
  refine k_get C 9 flX1_25 (37 + fi) (lt105_fld hfi) (v := .int ((M) (37 + fi) 1)) (ce_fld g _ hfi) rfl dX1_isHeard_6 rfl ?_
  refine k_teq (y := nI n) hn ?_
  refine k_icmp_ge C 30 12 dX1_isHeard_9 (by decide) rfl (fun c9 => ?_) (fun d9 => ?_)
  · skip
    have c9 := (nI_leI (by omega) (by omega)).mp (show nI n ≤ nI k from c9)
    refine k_iload_n C 31 2 rfl rfl dX1_isHeard_30 rfl ?_
    refine k_aload_n C 32 0 rfl rfl dX1_isHeard_31 rfl ?_
    refine k_get C 35 flX1_25 (37 + fi) (lt105_fld hfi) (v := .int ((M) (37 + fi) 1)) (ce_fld g _ hfi) rfl dX1_isHeard_32 rfl ?_
    refine k_teq (y := nI n) hn ?_
    refine k_icmp_ge C 51 38 dX1_isHeard_35 (by decide) rfl (fun c35 => ?_) (fun d35 => ?_)
    · skip
      have c35 := (nI_leI (by omega) (by omega)).mp (show nI n ≤ nI k from c35)
      refine k_iconst C 52 (v := 0) (by decide) dX1_isHeard_51 rfl ?_
      refine k_ret C rfl dX1_isHeard_52 ?_
      exact ⟨b2i_neg (by unfold pHeard; rw [he, pNx_end _ (by omega)]), rfl⟩
    · skip
      have d35 := mt (nI_leI (by omega) (by omega)).mpr (show ¬ (nI n ≤ nI k) from d35)
      exact absurd d35 (by omega)
  · skip
    have d9 := mt (nI_leI (by omega) (by omega)).mpr (show ¬ (nI n ≤ nI k) from d9)
    refine k_aload_n C 13 0 rfl rfl dX1_isHeard_12 rfl ?_
    refine k_get C 16 flX1_11 (37 + fi) (lt105_fld hfi) (v := .ref (ga g (40 + fi))) (ce_fld g _ hfi) rfl dX1_isHeard_13 rfl ?_
    refine k_iload_n C 17 2 rfl rfl dX1_isHeard_16 rfl ?_
    refine k_aald C 18 (40 + fi) k 3 (lt105_fa hfi) (ce_fa g _ hfi) rfl (by decide) rfl (by omega) dX1_isHeard_17 rfl ?_
    refine k_st (st' := [.ref (ga g (12 * fi + k))]) rfl ?_
    refine k_get C 21 flX1_41 (12 * fi + k) (lt105_fu (fu_lt hfi (by omega))) (v := .int ((M) (12 * fi + k) 6)) (ce_fu g _ (fu_lt hfi (by omega))) rfl dX1_isHeard_18 rfl ?_
    refine k_if_eq C 30 24 dX1_isHeard_21 (by decide) rfl (fun c21 => ?_) (fun d21 => ?_)
    · skip
      refine k_iload_n C 31 2 rfl rfl dX1_isHeard_30 rfl ?_
      refine k_aload_n C 32 0 rfl rfl dX1_isHeard_31 rfl ?_
      refine k_get C 35 flX1_25 (37 + fi) (lt105_fld hfi) (v := .int ((M) (37 + fi) 1)) (ce_fld g _ hfi) rfl dX1_isHeard_32 rfl ?_
      refine k_teq (y := nI n) hn ?_
      refine k_icmp_ge C 51 38 dX1_isHeard_35 (by decide) rfl (fun c35 => ?_) (fun d35 => ?_)
      · skip
        have c35 := (nI_leI (by omega) (by omega)).mp (show nI n ≤ nI k from c35)
        exact absurd c35 (by omega)
      · skip
        have d35 := mt (nI_leI (by omega) (by omega)).mpr (show ¬ (nI n ≤ nI k) from d35)
        refine k_aload_n C 39 0 rfl rfl dX1_isHeard_38 rfl ?_
        refine k_iload_n C 40 2 rfl rfl dX1_isHeard_39 rfl ?_
        refine k_iload_n C 41 1 rfl rfl dX1_isHeard_40 rfl ?_
        refine k_callVE C 44 (As := [.int (nI k), .int (nI f)]) (st := []) (37 + fi) (lt105_fld hfi) (ce_fld g _ hfi) rfl rfl mwX1_49 vlX1_echoes (qX1_echoes l g M hfi (a := k) (b := f) (by omega) (by omega)) mlX1_echoes (by decide) (by decide) rfl rfl (Nat.le_of_ble_eq_true rfl) dX1_isHeard_41 rfl ?_
        refine k_if_eqB C 51 47 dX1_isHeard_44 (by decide) rfl (fun c44 => ?_) (fun d44 => ?_)
        · skip
          refine k_iconst C 52 (v := 0) (by decide) dX1_isHeard_51 rfl ?_
          refine k_ret C rfl dX1_isHeard_52 ?_
          exact ⟨b2i_neg (by unfold pHeard; rw [he, pNx_hit _ (by omega) (show fF M fi k 6 = 0 from c21)]; exact c44), rfl⟩
        · skip
          refine k_iconst C 48 (v := 1) (by decide) dX1_isHeard_47 rfl ?_
          refine k_goto C 52 dX1_isHeard_48 (by decide) ?_
          refine k_ret C rfl dX1_isHeard_52 ?_
          exact ⟨b2i_pos (by unfold pHeard; rw [he, pNx_hit _ (by omega) (show fF M fi k 6 = 0 from c21)]; exact d44), rfl⟩
    · skip
      refine k_iinc C 27 (nI (k + 1)) 2 [(2, .int (nI (k + 1))), (0, .ref (ga g (37 + fi))), (1, .int (nI f))] rfl (iinc_p k) (by decide) rfl dX1_isHeard_24 rfl ?_
      refine k_goto C 4 dX1_isHeard_27 (by decide) ?_
      refine k_sub [(0, .ref (ga g (37 + fi))), (1, .int (nI f)), (2, .int (nI (k + 1)))] [1, 2, 0] rfl ?_
      refine k_all (M' := M) (lo' := [(0, .ref (ga g (37 + fi))), (1, .int (nI f)), (2, .int (nI (k + 1)))]) (st' := []) (by rfl) (by rfl) rfl ?_
      exact ih (k + 1) (show ((k + 1) ≤ n) ∧ (f + 1 ≤ (k + 1)) ∧ (pNx (fF M fi) (n - (f + 1)) (f + 1) = pNx (fF M fi) (n - (k + 1)) (k + 1)) from by exact ⟨by omega, by omega, by rw [he, pNx_skip _ (by omega) (show ¬ fF M fi k 6 = 0 from d21)]⟩) (by show n - (k + 1) < _; omega)
set_option maxHeartbeats 4000000 in
set_option maxRecDepth 20000 in
theorem qX1_isAnswer (l : Launch) (g : GT) (M : Mem) {fi : Nat} (hfi : fi < 3) {f : Nat} (hf : f < 12) : CtrE l g yX1_isAnswer cX1_isAnswer 3 (some .boolean) 3 [.ref (ga g (37 + fi)), .int (nI f)] M (b2i (pIsAns (fF M fi) f)) M := by
  refine ctrI_of (by decide +kernel) (Nat.le_of_ble_eq_true rfl) ?_
  intro pP eE RR sS mI aG bB mE cD C
  refine k_lo (lo' := [(0, .ref (ga g (37 + fi))), (1, .int (nI f))]) rfl ?_
  refine k_aload_n C 1 0 rfl rfl dX1_isAnswer_0 rfl ?_
  refine k_get C 4 flX1_11 (37 + fi) (lt105_fld hfi) (v := .ref (ga g (40 + fi))) (ce_fld g _ hfi) rfl dX1_isAnswer_1 rfl ?_
  refine k_iload_n C 5 1 rfl rfl dX1_isAnswer_4 rfl ?_
  refine k_aald C 6 (40 + fi) f 3 (lt105_fa hfi) (ce_fa g _ hfi) rfl (by decide) rfl (by omega) dX1_isAnswer_5 rfl ?_
  refine k_st (st' := [.ref (ga g (12 * fi + f))]) rfl ?_
  refine k_get C 9 flX1_41 (12 * fi + f) (lt105_fu (fu_lt hfi (by omega))) (v := .int ((M) (12 * fi + f) 6)) (ce_fu g _ (fu_lt hfi (by omega))) rfl dX1_isAnswer_6 rfl ?_
  refine k_if_eq C 14 12 dX1_isAnswer_9 (by decide) rfl (fun c9 => ?_) (fun d9 => ?_)
  · skip
    refine k_aload_n C 15 0 rfl rfl dX1_isAnswer_14 rfl ?_
    refine k_iload_n C 16 1 rfl rfl dX1_isAnswer_15 rfl ?_
    refine k_callVE C 19 (As := [.int (nI f)]) (st := []) (37 + fi) (lt105_fld hfi) (ce_fld g _ hfi) rfl rfl mwX1_52 vlX1_seenAhead (qX1_seenAhead l g M hfi (q := f) (by omega)) mlX1_seenAhead (by decide) (by decide) rfl rfl (Nat.le_of_ble_eq_true rfl) dX1_isAnswer_16 rfl ?_
    rcases q19 : pAhead (fF M fi) f with _ | a
    · skip
      have q19n := q19
      refine k_teq (y := (-1)) rfl ?_
      refine k_istore_n C 20 [(2, .int (-1)), (0, .ref (ga g (37 + fi))), (1, .int (nI f))] rfl (by decide) rfl dX1_isAnswer_19 rfl ?_
      refine k_iload_n C 21 0 rfl rfl dX1_isAnswer_20 rfl ?_
      refine k_if_lt C 37 24 dX1_isAnswer_21 (by decide) rfl (fun c21 => ?_) (fun d21 => ?_)
      · skip
        refine k_iconst C 38 (v := 0) (by decide) dX1_isAnswer_37 rfl ?_
        refine k_ret C rfl dX1_isAnswer_38 ?_
        exact ⟨b2i_neg (by unfold pIsAns; rw [if_pos (show fF M fi f 6 = 0 from c9), q19]), rfl⟩
      · skip
        exact absurd d21 (by decide)
    · skip
      have q19s := q19
      refine k_teq (y := nI a) rfl ?_
      have ha := pAhead_in _ _ _ q19
      refine k_istore_n C 20 [(2, .int (nI a)), (0, .ref (ga g (37 + fi))), (1, .int (nI f))] rfl (by decide) rfl dX1_isAnswer_19 rfl ?_
      refine k_iload_n C 21 0 rfl rfl dX1_isAnswer_20 rfl ?_
      refine k_if_lt C 37 24 dX1_isAnswer_21 (by decide) rfl (fun c21 => ?_) (fun d21 => ?_)
      · skip
        have c21 := (nI_ltI (by omega) (by omega)).mp (show nI a < nI 0 from c21)
        exact absurd c21 (by omega)
      · skip
        have d21 := mt (nI_ltI (by omega) (by omega)).mpr (show ¬ (nI a < nI 0) from d21)
        refine k_aload_n C 25 1 rfl rfl dX1_isAnswer_24 rfl ?_
        refine k_iload_n C 26 2 rfl rfl dX1_isAnswer_25 rfl ?_
        refine k_iload_n C 27 0 rfl rfl dX1_isAnswer_26 rfl ?_
        refine k_callVE C 30 (As := [.int (nI f), .int (nI a)]) (st := []) (37 + fi) (lt105_fld hfi) (ce_fld g _ hfi) rfl rfl mwX1_49 vlX1_echoes (qX1_echoes l g M hfi (a := f) (b := a) (by omega) (by omega)) mlX1_echoes (by decide) (by decide) rfl rfl (Nat.le_of_ble_eq_true rfl) dX1_isAnswer_27 rfl ?_
        refine k_if_eqB C 37 33 dX1_isAnswer_30 (by decide) rfl (fun c30 => ?_) (fun d30 => ?_)
        · skip
          refine k_iconst C 38 (v := 0) (by decide) dX1_isAnswer_37 rfl ?_
          refine k_ret C rfl dX1_isAnswer_38 ?_
          exact ⟨b2i_neg (by unfold pIsAns; rw [if_pos (show fF M fi f 6 = 0 from c9), q19]; exact c30), rfl⟩
        · skip
          refine k_iconst C 34 (v := 1) (by decide) dX1_isAnswer_33 rfl ?_
          refine k_goto C 38 dX1_isAnswer_34 (by decide) ?_
          refine k_ret C rfl dX1_isAnswer_38 ?_
          exact ⟨b2i_pos (by unfold pIsAns; rw [if_pos (show fF M fi f 6 = 0 from c9), q19]; exact d30), rfl⟩
  · skip
    refine k_iconst C 13 (v := 0) (by decide) dX1_isAnswer_12 rfl ?_
    refine k_ret C rfl dX1_isAnswer_13 ?_
    exact ⟨b2i_neg (by unfold pIsAns; rw [if_neg (show ¬ fF M fi f 6 = 0 from d9)]), rfl⟩
set_option maxHeartbeats 4000000 in
set_option maxRecDepth 20000 in
theorem qX1_seenSet (l : Launch) (g : GT) (M : Mem) {fi : Nat} (hfi : fi < 3) {n : Nat} (hn : M (37 + fi) 1 = nI n) (h12 : n ≤ 12)  : CtrE l g yX1_seenSet cX1_seenSet 3 (some .int) 0 [.ref (ga g (37 + fi))] M (nI (pSet (fF M fi) n)) M := by
  refine ctrI_of (by decide +kernel) (Nat.le_of_ble_eq_true rfl) ?_
  intro pP eE RR sS mI aG bB mE cD C
  refine k_lo (lo' := [(0, .ref (ga g (37 + fi)))]) rfl ?_
  refine k_iconst C 1 (v := 0) (by decide) dX1_seenSet_0 rfl ?_
  refine k_istore_n C 2 [(1, .int 0), (0, .ref (ga g (37 + fi)))] rfl (by decide) rfl dX1_seenSet_1 rfl ?_
  refine k_iconst C 3 (v := 0) (by decide) dX1_seenSet_2 rfl ?_
  refine k_istore_n C 4 [(2, .int 0), (1, .int 0), (0, .ref (ga g (37 + fi)))] rfl (by decide) rfl dX1_seenSet_3 rfl ?_
  refine k_sub [(0, .ref (ga g (37 + fi))), (1, .int 0), (2, .int 0)] [2, 1, 0] rfl ?_
  refine k_all (M' := M) (lo' := [(0, .ref (ga g (37 + fi))), (1, .int (nI (pSet (fF M fi) 0))), (2, .int (nI 0))]) (st' := []) (by rfl) (by rfl) rfl ?_
  refine k_loop (σ := Nat) (fun (i : Nat) => (i ≤ n)) (fun (i : Nat) => n - i) (fun (i : Nat) => M) (fun (i : Nat) => [(0, .ref (ga g (37 + fi))), (1, .int (nI (pSet (fF M fi) i))), (2, .int (nI i))]) 0 (show (0 ≤ n) from by exact Nat.zero_le _) ?_
  rintro i hI ih
  have hI : (i ≤ n) := hI
  have hi := hI
  show KW pP l eE RR sS mI aG bB mE cD g 3 _ (M) 4 [(0, .ref (ga g (37 + fi))), (1, .int (nI (pSet (fF M fi) i))), (2, .int (nI i))] []
  have hs := pSet_lt (fF M fi) i
  refine k_iload_n C 5 2 rfl rfl dX1_seenSet_4 rfl ?_
  refine k_aload_n C 6 0 rfl rfl dX1_seenSet_5 rfl ?_
  refine k_get C 9 flX1_25 (37 + fi) (lt105_fld hfi) (v := .int ((M) (37 + fi) 1)) (ce_fld g _ hfi) rfl dX1_seenSet_6 rfl ?_
  refine k_teq (y := nI n) hn ?_
  refine k_icmp_ge C 36 12 dX1_seenSet_9 (by decide) rfl (fun c9 => ?_) (fun d9 => ?_)
  · skip
    have c9 := (nI_leI (by omega) (by omega)).mp (show nI n ≤ nI i from c9)
    refine k_iload_n C 37 1 rfl rfl dX1_seenSet_36 rfl ?_
    refine k_ret C rfl dX1_seenSet_37 ?_
    exact ⟨by rw [show i = n by omega], rfl⟩
  · skip
    have d9 := mt (nI_leI (by omega) (by omega)).mpr (show ¬ (nI n ≤ nI i) from d9)
    refine k_aload_n C 13 0 rfl rfl dX1_seenSet_12 rfl ?_
    refine k_get C 16 flX1_11 (37 + fi) (lt105_fld hfi) (v := .ref (ga g (40 + fi))) (ce_fld g _ hfi) rfl dX1_seenSet_13 rfl ?_
    refine k_iload_n C 17 2 rfl rfl dX1_seenSet_16 rfl ?_
    refine k_aald C 18 (40 + fi) i 3 (lt105_fa hfi) (ce_fa g _ hfi) rfl (by decide) rfl (by omega) dX1_seenSet_17 rfl ?_
    refine k_st (st' := [.ref (ga g (12 * fi + i))]) rfl ?_
    refine k_get C 21 flX1_41 (12 * fi + i) (lt105_fu (fu_lt hfi (by omega))) (v := .int ((M) (12 * fi + i) 6)) (ce_fu g _ (fu_lt hfi (by omega))) rfl dX1_seenSet_18 rfl ?_
    refine k_if_ne C 30 24 dX1_seenSet_21 (by decide) rfl (fun c21 => ?_) (fun d21 => ?_)
    · skip
      refine k_iinc C 33 (nI (i + 1)) 2 [(2, .int (nI (i + 1))), (0, .ref (ga g (37 + fi))), (1, .int (nI (pSet (fF M fi) i)))] rfl (iinc_p i) (by decide) rfl dX1_seenSet_30 rfl ?_
      refine k_goto C 4 dX1_seenSet_33 (by decide) ?_
      refine k_sub [(0, .ref (ga g (37 + fi))), (1, .int (nI (pSet (fF M fi) i))), (2, .int (nI (i + 1)))] [1, 2, 0] rfl ?_
      refine k_all (M' := M) (lo' := [(0, .ref (ga g (37 + fi))), (1, .int (nI (pSet (fF M fi) (i + 1)))), (2, .int (nI (i + 1)))]) (st' := []) (by rfl) (by rw [show pSet (fF M fi) (i + 1) = pSet (fF M fi) i from if_neg c21]) rfl ?_
      exact ih (i + 1) (show ((i + 1) ≤ n) from by omega) (by show n - (i + 1) < _; omega)
    · skip
      refine k_iload_n C 25 1 rfl rfl dX1_seenSet_24 rfl ?_
      refine k_iconst C 26 (v := 1) (by decide) dX1_seenSet_25 rfl ?_
      refine k_iload_n C 27 2 rfl rfl dX1_seenSet_26 rfl ?_
      refine k_ishl C 28 dX1_seenSet_27 rfl ?_
      refine k_ior C 29 dX1_seenSet_28 rfl ?_
      refine k_istore_n C 30 [(1, .int ((nI (pSet (fF M fi) i)) ||| (1 <<< ((nI i) &&& 31)))), (0, .ref (ga g (37 + fi))), (2, .int (nI i))] rfl (by decide) rfl dX1_seenSet_29 rfl ?_
      refine k_iinc C 33 (nI (i + 1)) 2 [(2, .int (nI (i + 1))), (1, .int ((nI (pSet (fF M fi) i)) ||| (1 <<< ((nI i) &&& 31)))), (0, .ref (ga g (37 + fi)))] rfl (iinc_p i) (by decide) rfl dX1_seenSet_30 rfl ?_
      refine k_goto C 4 dX1_seenSet_33 (by decide) ?_
      refine k_sub [(0, .ref (ga g (37 + fi))), (1, .int ((nI (pSet (fF M fi) i)) ||| (1 <<< ((nI i) &&& 31)))), (2, .int (nI (i + 1)))] [2, 1, 0] rfl ?_
      refine k_all (M' := M) (lo' := [(0, .ref (ga g (37 + fi))), (1, .int (nI (pSet (fF M fi) (i + 1)))), (2, .int (nI (i + 1)))]) (st' := []) (by rfl) (by rw [show pSet (fF M fi) (i + 1) = pSet (fF M fi) i + 2 ^ i from if_pos d21, ← or_bit i (by omega) _ (pSet_lt _ _)]) rfl ?_
      exact ih (i + 1) (show ((i + 1) ≤ n) from by omega) (by show n - (i + 1) < _; omega)
set_option maxHeartbeats 4000000 in
set_option maxRecDepth 20000 in
theorem qJ6_bitCount_0f7a4 (l : Launch) (g : GT) (M : Mem) (x : Int32) : CtrE l g yJ6_bitCount_0f7a4 cJ6_bitCount_0f7a4 1 (some .int) 0 [.int x] M (pBc x) M := by
  refine ctrI_of (by decide +kernel) (Nat.le_of_ble_eq_true rfl) ?_
  intro pP eE RR sS mI aG bB mE cD C
  refine k_lo (lo' := [(0, .int x)]) rfl ?_
  refine k_iload_n C 1 0 rfl rfl dJ6_bitCount_0f7a4_0 rfl ?_
  refine k_iload_n C 2 0 rfl rfl dJ6_bitCount_0f7a4_1 rfl ?_
  refine k_iconst C 3 (v := 1) (by decide) dJ6_bitCount_0f7a4_2 rfl ?_
  refine k_iushr C 4 dJ6_bitCount_0f7a4_3 rfl ?_
  refine k_ldcw C 7 cwJ6_265 dJ6_bitCount_0f7a4_4 rfl ?_
  refine k_iand C 8 dJ6_bitCount_0f7a4_7 rfl ?_
  refine k_isub C 9 dJ6_bitCount_0f7a4_8 rfl ?_
  refine k_istore_n C 10 [(0, .int (x - (((x.toUInt32 >>> ((1 : Int32).toUInt32 &&& Int32.toUInt32 31)).toInt32) &&& 1431655765)))] rfl (by decide) rfl dJ6_bitCount_0f7a4_9 rfl ?_
  refine k_iload_n C 11 0 rfl rfl dJ6_bitCount_0f7a4_10 rfl ?_
  refine k_ldcw C 14 cwJ6_266 dJ6_bitCount_0f7a4_11 rfl ?_
  refine k_iand C 15 dJ6_bitCount_0f7a4_14 rfl ?_
  refine k_iload_n C 16 0 rfl rfl dJ6_bitCount_0f7a4_15 rfl ?_
  refine k_iconst C 17 (v := 2) (by decide) dJ6_bitCount_0f7a4_16 rfl ?_
  refine k_iushr C 18 dJ6_bitCount_0f7a4_17 rfl ?_
  refine k_ldcw C 21 cwJ6_266 dJ6_bitCount_0f7a4_18 rfl ?_
  refine k_iand C 22 dJ6_bitCount_0f7a4_21 rfl ?_
  refine k_iadd C 23 dJ6_bitCount_0f7a4_22 rfl ?_
  refine k_istore_n C 24 [(0, .int (((x - (((x.toUInt32 >>> ((1 : Int32).toUInt32 &&& Int32.toUInt32 31)).toInt32) &&& 1431655765)) &&& 858993459) + ((((x - (((x.toUInt32 >>> ((1 : Int32).toUInt32 &&& Int32.toUInt32 31)).toInt32) &&& 1431655765)).toUInt32 >>> ((2 : Int32).toUInt32 &&& Int32.toUInt32 31)).toInt32) &&& 858993459)))] rfl (by decide) rfl dJ6_bitCount_0f7a4_23 rfl ?_
  refine k_iload_n C 25 0 rfl rfl dJ6_bitCount_0f7a4_24 rfl ?_
  refine k_iload_n C 26 0 rfl rfl dJ6_bitCount_0f7a4_25 rfl ?_
  refine k_iconst C 27 (v := 4) (by decide) dJ6_bitCount_0f7a4_26 rfl ?_
  refine k_iushr C 28 dJ6_bitCount_0f7a4_27 rfl ?_
  refine k_iadd C 29 dJ6_bitCount_0f7a4_28 rfl ?_
  refine k_ldcw C 32 cwJ6_267 dJ6_bitCount_0f7a4_29 rfl ?_
  refine k_iand C 33 dJ6_bitCount_0f7a4_32 rfl ?_
  refine k_istore_n C 34 [(0, .int (((((x - (((x.toUInt32 >>> ((1 : Int32).toUInt32 &&& Int32.toUInt32 31)).toInt32) &&& 1431655765)) &&& 858993459) + ((((x - (((x.toUInt32 >>> ((1 : Int32).toUInt32 &&& Int32.toUInt32 31)).toInt32) &&& 1431655765)).toUInt32 >>> ((2 : Int32).toUInt32 &&& Int32.toUInt32 31)).toInt32) &&& 858993459)) + (((((x - (((x.toUInt32 >>> ((1 : Int32).toUInt32 &&& Int32.toUInt32 31)).toInt32) &&& 1431655765)) &&& 858993459) + ((((x - (((x.toUInt32 >>> ((1 : Int32).toUInt32 &&& Int32.toUInt32 31)).toInt32) &&& 1431655765)).toUInt32 >>> ((2 : Int32).toUInt32 &&& Int32.toUInt32 31)).toInt32) &&& 858993459)).toUInt32 >>> ((4 : Int32).toUInt32 &&& Int32.toUInt32 31)).toInt32)) &&& 252645135))] rfl (by decide) rfl dJ6_bitCount_0f7a4_33 rfl ?_
  refine k_iload_n C 35 0 rfl rfl dJ6_bitCount_0f7a4_34 rfl ?_
  refine k_iload_n C 36 0 rfl rfl dJ6_bitCount_0f7a4_35 rfl ?_
  refine k_bipush C 38 (v := 8) (by decide) dJ6_bitCount_0f7a4_36 rfl ?_
  refine k_iushr C 39 dJ6_bitCount_0f7a4_38 rfl ?_
  refine k_iadd C 40 dJ6_bitCount_0f7a4_39 rfl ?_
  refine k_istore_n C 41 [(0, .int ((((((x - (((x.toUInt32 >>> ((1 : Int32).toUInt32 &&& Int32.toUInt32 31)).toInt32) &&& 1431655765)) &&& 858993459) + ((((x - (((x.toUInt32 >>> ((1 : Int32).toUInt32 &&& Int32.toUInt32 31)).toInt32) &&& 1431655765)).toUInt32 >>> ((2 : Int32).toUInt32 &&& Int32.toUInt32 31)).toInt32) &&& 858993459)) + (((((x - (((x.toUInt32 >>> ((1 : Int32).toUInt32 &&& Int32.toUInt32 31)).toInt32) &&& 1431655765)) &&& 858993459) + ((((x - (((x.toUInt32 >>> ((1 : Int32).toUInt32 &&& Int32.toUInt32 31)).toInt32) &&& 1431655765)).toUInt32 >>> ((2 : Int32).toUInt32 &&& Int32.toUInt32 31)).toInt32) &&& 858993459)).toUInt32 >>> ((4 : Int32).toUInt32 &&& Int32.toUInt32 31)).toInt32)) &&& 252645135) + (((((((x - (((x.toUInt32 >>> ((1 : Int32).toUInt32 &&& Int32.toUInt32 31)).toInt32) &&& 1431655765)) &&& 858993459) + ((((x - (((x.toUInt32 >>> ((1 : Int32).toUInt32 &&& Int32.toUInt32 31)).toInt32) &&& 1431655765)).toUInt32 >>> ((2 : Int32).toUInt32 &&& Int32.toUInt32 31)).toInt32) &&& 858993459)) + (((((x - (((x.toUInt32 >>> ((1 : Int32).toUInt32 &&& Int32.toUInt32 31)).toInt32) &&& 1431655765)) &&& 858993459) + ((((x - (((x.toUInt32 >>> ((1 : Int32).toUInt32 &&& Int32.toUInt32 31)).toInt32) &&& 1431655765)).toUInt32 >>> ((2 : Int32).toUInt32 &&& Int32.toUInt32 31)).toInt32) &&& 858993459)).toUInt32 >>> ((4 : Int32).toUInt32 &&& Int32.toUInt32 31)).toInt32)) &&& 252645135).toUInt32 >>> ((8 : Int32).toUInt32 &&& Int32.toUInt32 31)).toInt32)))] rfl (by decide) rfl dJ6_bitCount_0f7a4_40 rfl ?_
  refine k_iload_n C 42 0 rfl rfl dJ6_bitCount_0f7a4_41 rfl ?_
  refine k_iload_n C 43 0 rfl rfl dJ6_bitCount_0f7a4_42 rfl ?_
  refine k_bipush C 45 (v := 16) (by decide) dJ6_bitCount_0f7a4_43 rfl ?_
  refine k_iushr C 46 dJ6_bitCount_0f7a4_45 rfl ?_
  refine k_iadd C 47 dJ6_bitCount_0f7a4_46 rfl ?_
  refine k_istore_n C 48 [(0, .int (((((((x - (((x.toUInt32 >>> ((1 : Int32).toUInt32 &&& Int32.toUInt32 31)).toInt32) &&& 1431655765)) &&& 858993459) + ((((x - (((x.toUInt32 >>> ((1 : Int32).toUInt32 &&& Int32.toUInt32 31)).toInt32) &&& 1431655765)).toUInt32 >>> ((2 : Int32).toUInt32 &&& Int32.toUInt32 31)).toInt32) &&& 858993459)) + (((((x - (((x.toUInt32 >>> ((1 : Int32).toUInt32 &&& Int32.toUInt32 31)).toInt32) &&& 1431655765)) &&& 858993459) + ((((x - (((x.toUInt32 >>> ((1 : Int32).toUInt32 &&& Int32.toUInt32 31)).toInt32) &&& 1431655765)).toUInt32 >>> ((2 : Int32).toUInt32 &&& Int32.toUInt32 31)).toInt32) &&& 858993459)).toUInt32 >>> ((4 : Int32).toUInt32 &&& Int32.toUInt32 31)).toInt32)) &&& 252645135) + (((((((x - (((x.toUInt32 >>> ((1 : Int32).toUInt32 &&& Int32.toUInt32 31)).toInt32) &&& 1431655765)) &&& 858993459) + ((((x - (((x.toUInt32 >>> ((1 : Int32).toUInt32 &&& Int32.toUInt32 31)).toInt32) &&& 1431655765)).toUInt32 >>> ((2 : Int32).toUInt32 &&& Int32.toUInt32 31)).toInt32) &&& 858993459)) + (((((x - (((x.toUInt32 >>> ((1 : Int32).toUInt32 &&& Int32.toUInt32 31)).toInt32) &&& 1431655765)) &&& 858993459) + ((((x - (((x.toUInt32 >>> ((1 : Int32).toUInt32 &&& Int32.toUInt32 31)).toInt32) &&& 1431655765)).toUInt32 >>> ((2 : Int32).toUInt32 &&& Int32.toUInt32 31)).toInt32) &&& 858993459)).toUInt32 >>> ((4 : Int32).toUInt32 &&& Int32.toUInt32 31)).toInt32)) &&& 252645135).toUInt32 >>> ((8 : Int32).toUInt32 &&& Int32.toUInt32 31)).toInt32)) + ((((((((x - (((x.toUInt32 >>> ((1 : Int32).toUInt32 &&& Int32.toUInt32 31)).toInt32) &&& 1431655765)) &&& 858993459) + ((((x - (((x.toUInt32 >>> ((1 : Int32).toUInt32 &&& Int32.toUInt32 31)).toInt32) &&& 1431655765)).toUInt32 >>> ((2 : Int32).toUInt32 &&& Int32.toUInt32 31)).toInt32) &&& 858993459)) + (((((x - (((x.toUInt32 >>> ((1 : Int32).toUInt32 &&& Int32.toUInt32 31)).toInt32) &&& 1431655765)) &&& 858993459) + ((((x - (((x.toUInt32 >>> ((1 : Int32).toUInt32 &&& Int32.toUInt32 31)).toInt32) &&& 1431655765)).toUInt32 >>> ((2 : Int32).toUInt32 &&& Int32.toUInt32 31)).toInt32) &&& 858993459)).toUInt32 >>> ((4 : Int32).toUInt32 &&& Int32.toUInt32 31)).toInt32)) &&& 252645135) + (((((((x - (((x.toUInt32 >>> ((1 : Int32).toUInt32 &&& Int32.toUInt32 31)).toInt32) &&& 1431655765)) &&& 858993459) + ((((x - (((x.toUInt32 >>> ((1 : Int32).toUInt32 &&& Int32.toUInt32 31)).toInt32) &&& 1431655765)).toUInt32 >>> ((2 : Int32).toUInt32 &&& Int32.toUInt32 31)).toInt32) &&& 858993459)) + (((((x - (((x.toUInt32 >>> ((1 : Int32).toUInt32 &&& Int32.toUInt32 31)).toInt32) &&& 1431655765)) &&& 858993459) + ((((x - (((x.toUInt32 >>> ((1 : Int32).toUInt32 &&& Int32.toUInt32 31)).toInt32) &&& 1431655765)).toUInt32 >>> ((2 : Int32).toUInt32 &&& Int32.toUInt32 31)).toInt32) &&& 858993459)).toUInt32 >>> ((4 : Int32).toUInt32 &&& Int32.toUInt32 31)).toInt32)) &&& 252645135).toUInt32 >>> ((8 : Int32).toUInt32 &&& Int32.toUInt32 31)).toInt32)).toUInt32 >>> ((16 : Int32).toUInt32 &&& Int32.toUInt32 31)).toInt32)))] rfl (by decide) rfl dJ6_bitCount_0f7a4_47 rfl ?_
  refine k_iload_n C 49 0 rfl rfl dJ6_bitCount_0f7a4_48 rfl ?_
  refine k_bipush C 51 (v := 63) (by decide) dJ6_bitCount_0f7a4_49 rfl ?_
  refine k_iand C 52 dJ6_bitCount_0f7a4_51 rfl ?_
  refine k_ret C rfl dJ6_bitCount_0f7a4_52 ?_
  exact ⟨rfl, rfl⟩
set_option maxHeartbeats 4000000 in
set_option maxRecDepth 20000 in
theorem qX1_seenCount (l : Launch) (g : GT) (M : Mem) {fi : Nat} (hfi : fi < 3) {n : Nat} (hn : M (37 + fi) 1 = nI n) (h12 : n ≤ 12)  : CtrE l g yX1_seenCount cX1_seenCount 1 (some .int) 1 [.ref (ga g (37 + fi))] M (nI (popc (pSet (fF M fi) n))) M := by
  refine ctrI_of (by decide +kernel) (Nat.le_of_ble_eq_true rfl) ?_
  intro pP eE RR sS mI aG bB mE cD C
  refine k_lo (lo' := [(0, .ref (ga g (37 + fi)))]) rfl ?_
  refine k_aload_n C 1 0 rfl rfl dX1_seenCount_0 rfl ?_
  refine k_callVE C 4 (As := []) (st := []) (37 + fi) (lt105_fld hfi) (ce_fld g _ hfi) rfl rfl mwX1_56 vlX1_seenSet (qX1_seenSet l g M hfi hn h12) mlX1_seenSet (by decide) (by decide) rfl rfl (Nat.le_of_ble_eq_true rfl) dX1_seenCount_1 rfl ?_
  refine k_callSE C 7 (As := [.int (nI (pSet (fF M fi) n))]) (st := []) mwX1_60 skJ6_bitCount_0f7a4 (qJ6_bitCount_0f7a4 l g M (nI (pSet (fF M fi) n))) mlJ6_bitCount_0f7a4 (by decide) (by decide) rfl rfl (Nat.le_of_ble_eq_true rfl) dX1_seenCount_4 rfl ?_
  refine k_ret C rfl dX1_seenCount_7 ?_
  exact ⟨pBc_nI _ (Nat.lt_of_lt_of_le (pSet_lt _ _) (Nat.pow_le_pow_right (by decide) h12)), rfl⟩
set_option maxHeartbeats 4000000 in
set_option maxRecDepth 20000 in
theorem qX1_answerCount (l : Launch) (g : GT) (M : Mem) {fi : Nat} (hfi : fi < 3) {n : Nat} (hn : M (37 + fi) 1 = nI n) (h12 : n ≤ 12)  : CtrE l g yX1_answerCount cX1_answerCount 3 (some .int) 4 [.ref (ga g (37 + fi))] M (nI (pCnt (fF M fi) n)) M := by
  refine ctrI_of (by decide +kernel) (Nat.le_of_ble_eq_true rfl) ?_
  intro pP eE RR sS mI aG bB mE cD C
  refine k_lo (lo' := [(0, .ref (ga g (37 + fi)))]) rfl ?_
  refine k_iconst C 1 (v := 0) (by decide) dX1_answerCount_0 rfl ?_
  refine k_istore_n C 2 [(1, .int 0), (0, .ref (ga g (37 + fi)))] rfl (by decide) rfl dX1_answerCount_1 rfl ?_
  refine k_iconst C 3 (v := 0) (by decide) dX1_answerCount_2 rfl ?_
  refine k_istore_n C 4 [(2, .int 0), (1, .int 0), (0, .ref (ga g (37 + fi)))] rfl (by decide) rfl dX1_answerCount_3 rfl ?_
  refine k_sub [(0, .ref (ga g (37 + fi))), (1, .int 0), (2, .int 0)] [2, 1, 0] rfl ?_
  refine k_all (M' := M) (lo' := [(0, .ref (ga g (37 + fi))), (1, .int (nI (pCnt (fF M fi) 0))), (2, .int (nI 0))]) (st' := []) (by rfl) (by rfl) rfl ?_
  refine k_loop (σ := Nat) (fun (i : Nat) => (i ≤ n)) (fun (i : Nat) => n - i) (fun (i : Nat) => M) (fun (i : Nat) => [(0, .ref (ga g (37 + fi))), (1, .int (nI (pCnt (fF M fi) i))), (2, .int (nI i))]) 0 (show (0 ≤ n) from by exact Nat.zero_le _) ?_
  rintro i hI ih
  have hI : (i ≤ n) := hI
  have hi := hI
  show KW pP l eE RR sS mI aG bB mE cD g 3 _ (M) 4 [(0, .ref (ga g (37 + fi))), (1, .int (nI (pCnt (fF M fi) i))), (2, .int (nI i))] []
  have hc := pCnt_le (fF M fi) i
  refine k_iload_n C 5 2 rfl rfl dX1_answerCount_4 rfl ?_
  refine k_aload_n C 6 0 rfl rfl dX1_answerCount_5 rfl ?_
  refine k_get C 9 flX1_25 (37 + fi) (lt105_fld hfi) (v := .int ((M) (37 + fi) 1)) (ce_fld g _ hfi) rfl dX1_answerCount_6 rfl ?_
  refine k_teq (y := nI n) hn ?_
  refine k_icmp_ge C 29 12 dX1_answerCount_9 (by decide) rfl (fun c9 => ?_) (fun d9 => ?_)
  · skip
    have c9 := (nI_leI (by omega) (by omega)).mp (show nI n ≤ nI i from c9)
    refine k_iload_n C 30 1 rfl rfl dX1_answerCount_29 rfl ?_
    refine k_ret C rfl dX1_answerCount_30 ?_
    exact ⟨by rw [show i = n by omega], rfl⟩
  · skip
    have d9 := mt (nI_leI (by omega) (by omega)).mpr (show ¬ (nI n ≤ nI i) from d9)
    refine k_aload_n C 13 0 rfl rfl dX1_answerCount_12 rfl ?_
    refine k_iload_n C 14 2 rfl rfl dX1_answerCount_13 rfl ?_
    refine k_callVE C 17 (As := [.int (nI i)]) (st := []) (37 + fi) (lt105_fld hfi) (ce_fld g _ hfi) rfl rfl mwX1_65 vlX1_isAnswer (qX1_isAnswer l g M hfi (f := i) (by omega)) mlX1_isAnswer (by decide) (by decide) rfl rfl (Nat.le_of_ble_eq_true rfl) dX1_answerCount_14 rfl ?_
    refine k_if_eqB C 23 20 dX1_answerCount_17 (by decide) rfl (fun c17 => ?_) (fun d17 => ?_)
    · skip
      refine k_iinc C 26 (nI (i + 1)) 2 [(2, .int (nI (i + 1))), (0, .ref (ga g (37 + fi))), (1, .int (nI (pCnt (fF M fi) i)))] rfl (iinc_p i) (by decide) rfl dX1_answerCount_23 rfl ?_
      refine k_goto C 4 dX1_answerCount_26 (by decide) ?_
      refine k_sub [(0, .ref (ga g (37 + fi))), (1, .int (nI (pCnt (fF M fi) i))), (2, .int (nI (i + 1)))] [1, 2, 0] rfl ?_
      refine k_all (M' := M) (lo' := [(0, .ref (ga g (37 + fi))), (1, .int (nI (pCnt (fF M fi) (i + 1)))), (2, .int (nI (i + 1)))]) (st' := []) (by rfl) (by rw [show pCnt (fF M fi) (i + 1) = pCnt (fF M fi) i by simp [pCnt, c17]]) rfl ?_
      exact ih (i + 1) (show ((i + 1) ≤ n) from by omega) (by show n - (i + 1) < _; omega)
    · skip
      refine k_iinc C 23 (nI ((pCnt (fF M fi) i) + 1)) 1 [(1, .int (nI ((pCnt (fF M fi) i) + 1))), (0, .ref (ga g (37 + fi))), (2, .int (nI i))] rfl (iinc_p (pCnt (fF M fi) i)) (by decide) rfl dX1_answerCount_20 rfl ?_
      refine k_iinc C 26 (nI (i + 1)) 2 [(2, .int (nI (i + 1))), (1, .int (nI ((pCnt (fF M fi) i) + 1))), (0, .ref (ga g (37 + fi)))] rfl (iinc_p i) (by decide) rfl dX1_answerCount_23 rfl ?_
      refine k_goto C 4 dX1_answerCount_26 (by decide) ?_
      refine k_sub [(0, .ref (ga g (37 + fi))), (1, .int (nI ((pCnt (fF M fi) i) + 1))), (2, .int (nI (i + 1)))] [2, 1, 0] rfl ?_
      refine k_all (M' := M) (lo' := [(0, .ref (ga g (37 + fi))), (1, .int (nI (pCnt (fF M fi) (i + 1)))), (2, .int (nI (i + 1)))]) (st' := []) (by rfl) (by rw [show pCnt (fF M fi) (i + 1) = pCnt (fF M fi) i + 1 by simp [pCnt, d17]]) rfl ?_
      exact ih (i + 1) (show ((i + 1) ≤ n) from by omega) (by show n - (i + 1) < _; omega)
set_option maxHeartbeats 4000000 in
set_option maxRecDepth 20000 in
theorem qX1_longestTalk (l : Launch) (g : GT) (M : Mem) {fi : Nat} (hfi : fi < 3) {n : Nat} (hn : M (37 + fi) 1 = nI n) (h12 : n ≤ 12)  : CtrE l g yX1_longestTalk cX1_longestTalk 4 (some .int) 4 [.ref (ga g (37 + fi))] M (nI (pLong (fF M fi) n).1) M := by
  refine ctrI_of (by decide +kernel) (Nat.le_of_ble_eq_true rfl) ?_
  intro pP eE RR sS mI aG bB mE cD C
  refine k_lo (lo' := [(0, .ref (ga g (37 + fi)))]) rfl ?_
  refine k_iconst C 1 (v := 0) (by decide) dX1_longestTalk_0 rfl ?_
  refine k_istore_n C 2 [(1, .int 0), (0, .ref (ga g (37 + fi)))] rfl (by decide) rfl dX1_longestTalk_1 rfl ?_
  refine k_iconst C 3 (v := 0) (by decide) dX1_longestTalk_2 rfl ?_
  refine k_istore_n C 4 [(2, .int 0), (1, .int 0), (0, .ref (ga g (37 + fi)))] rfl (by decide) rfl dX1_longestTalk_3 rfl ?_
  refine k_iconst C 5 (v := 0) (by decide) dX1_longestTalk_4 rfl ?_
  refine k_istore_n C 6 [(3, .int 0), (2, .int 0), (1, .int 0), (0, .ref (ga g (37 + fi)))] rfl (by decide) rfl dX1_longestTalk_5 rfl ?_
  refine k_sub [(0, .ref (ga g (37 + fi))), (1, .int 0), (2, .int 0), (3, .int 0)] [3, 2, 1, 0] rfl ?_
  refine k_all (M' := M) (lo' := [(0, .ref (ga g (37 + fi))), (1, .int (nI ((pLong (fF M fi) 0).1))), (2, .int (nI ((pLong (fF M fi) 0).2))), (3, .int (nI 0))]) (st' := []) (by rfl) (by rfl) rfl ?_
  refine k_loop (σ := Nat) (fun (i : Nat) => (i ≤ n)) (fun (i : Nat) => n - i) (fun (i : Nat) => M) (fun (i : Nat) => [(0, .ref (ga g (37 + fi))), (1, .int (nI ((pLong (fF M fi) i).1))), (2, .int (nI ((pLong (fF M fi) i).2))), (3, .int (nI i))]) 0 (show (0 ≤ n) from by exact Nat.zero_le _) ?_
  rintro i hI ih
  have hI : (i ≤ n) := hI
  have hi := hI
  show KW pP l eE RR sS mI aG bB mE cD g 4 _ (M) 6 [(0, .ref (ga g (37 + fi))), (1, .int (nI ((pLong (fF M fi) i).1))), (2, .int (nI ((pLong (fF M fi) i).2))), (3, .int (nI i))] []
  have hc := pLong_le (fF M fi) i
  refine k_iload_n C 7 3 rfl rfl dX1_longestTalk_6 rfl ?_
  refine k_aload_n C 8 0 rfl rfl dX1_longestTalk_7 rfl ?_
  refine k_get C 11 flX1_25 (37 + fi) (lt105_fld hfi) (v := .int ((M) (37 + fi) 1)) (ce_fld g _ hfi) rfl dX1_longestTalk_8 rfl ?_
  refine k_teq (y := nI n) hn ?_
  refine k_icmp_ge C 54 14 dX1_longestTalk_11 (by decide) rfl (fun c11 => ?_) (fun d11 => ?_)
  · skip
    have c11 := (nI_leI (by omega) (by omega)).mp (show nI n ≤ nI i from c11)
    refine k_iload_n C 55 1 rfl rfl dX1_longestTalk_54 rfl ?_
    refine k_ret C rfl dX1_longestTalk_55 ?_
    exact ⟨by rw [show i = n by omega], rfl⟩
  · skip
    have d11 := mt (nI_leI (by omega) (by omega)).mpr (show ¬ (nI n ≤ nI i) from d11)
    refine k_aload_n C 15 0 rfl rfl dX1_longestTalk_14 rfl ?_
    refine k_get C 18 flX1_11 (37 + fi) (lt105_fld hfi) (v := .ref (ga g (40 + fi))) (ce_fld g _ hfi) rfl dX1_longestTalk_15 rfl ?_
    refine k_iload_n C 19 3 rfl rfl dX1_longestTalk_18 rfl ?_
    refine k_aald C 20 (40 + fi) i 3 (lt105_fa hfi) (ce_fa g _ hfi) rfl (by decide) rfl (by omega) dX1_longestTalk_19 rfl ?_
    refine k_st (st' := [.ref (ga g (12 * fi + i))]) rfl ?_
    refine k_get C 23 flX1_41 (12 * fi + i) (lt105_fu (fu_lt hfi (by omega))) (v := .int ((M) (12 * fi + i) 6)) (ce_fu g _ (fu_lt hfi (by omega))) rfl dX1_longestTalk_20 rfl ?_
    refine k_if_ne C 48 26 dX1_longestTalk_23 (by decide) rfl (fun c23 => ?_) (fun d23 => ?_)
    · skip
      refine k_iinc C 51 (nI (i + 1)) 3 [(3, .int (nI (i + 1))), (0, .ref (ga g (37 + fi))), (1, .int (nI ((pLong (fF M fi) i).1))), (2, .int (nI ((pLong (fF M fi) i).2)))] rfl (iinc_p i) (by decide) rfl dX1_longestTalk_48 rfl ?_
      refine k_goto C 6 dX1_longestTalk_51 (by decide) ?_
      refine k_sub [(0, .ref (ga g (37 + fi))), (1, .int (nI ((pLong (fF M fi) i).1))), (2, .int (nI ((pLong (fF M fi) i).2))), (3, .int (nI (i + 1)))] [1, 2, 3, 0] rfl ?_
      refine k_all (M' := M) (lo' := [(0, .ref (ga g (37 + fi))), (1, .int (nI ((pLong (fF M fi) (i + 1)).1))), (2, .int (nI ((pLong (fF M fi) (i + 1)).2))), (3, .int (nI (i + 1)))]) (st' := []) (by rfl) (by simp [pLong, show ¬ fF M fi i 6 = 0 from c23] <;> rfl) rfl ?_
      exact ih (i + 1) (show ((i + 1) ≤ n) from by omega) (by show n - (i + 1) < _; omega)
    · skip
      refine k_aload_n C 27 0 rfl rfl dX1_longestTalk_26 rfl ?_
      refine k_iload_n C 28 3 rfl rfl dX1_longestTalk_27 rfl ?_
      refine k_callVE C 31 (As := [.int (nI i)]) (st := []) (37 + fi) (lt105_fld hfi) (ce_fld g _ hfi) rfl rfl mwX1_65 vlX1_isAnswer (qX1_isAnswer l g M hfi (f := i) (by omega)) mlX1_isAnswer (by decide) (by decide) rfl rfl (Nat.le_of_ble_eq_true rfl) dX1_longestTalk_28 rfl ?_
      refine k_if_eqB C 40 34 dX1_longestTalk_31 (by decide) rfl (fun c31 => ?_) (fun d31 => ?_)
      · skip
        refine k_iconst C 41 (v := 1) (by decide) dX1_longestTalk_40 rfl ?_
        refine k_istore_n C 42 [(2, .int 1), (0, .ref (ga g (37 + fi))), (1, .int (nI ((pLong (fF M fi) i).1))), (3, .int (nI i))] rfl (by decide) rfl dX1_longestTalk_41 rfl ?_
        refine k_iload_n C 43 2 rfl rfl dX1_longestTalk_42 rfl ?_
        refine k_iload_n C 44 0 rfl rfl dX1_longestTalk_43 rfl ?_
        refine k_mmax C 47 mwX1_69 (Nat.le_of_ble_eq_true rfl) dX1_longestTalk_44 rfl ?_
        refine k_teq (nI_max (a := (pLong (fF M fi) i).1) (b := 1) (by omega) (by omega)) ?_
        refine k_istore_n C 48 [(1, .int (nI (max ((pLong (fF M fi) i).1) 1))), (2, .int 1), (0, .ref (ga g (37 + fi))), (3, .int (nI i))] rfl (by decide) rfl dX1_longestTalk_47 rfl ?_
        refine k_iinc C 51 (nI (i + 1)) 3 [(3, .int (nI (i + 1))), (1, .int (nI (max ((pLong (fF M fi) i).1) 1))), (2, .int 1), (0, .ref (ga g (37 + fi)))] rfl (iinc_p i) (by decide) rfl dX1_longestTalk_48 rfl ?_
        refine k_goto C 6 dX1_longestTalk_51 (by decide) ?_
        refine k_sub [(0, .ref (ga g (37 + fi))), (1, .int (nI (max ((pLong (fF M fi) i).1) 1))), (2, .int 1), (3, .int (nI (i + 1)))] [3, 1, 2, 0] rfl ?_
        refine k_all (M' := M) (lo' := [(0, .ref (ga g (37 + fi))), (1, .int (nI ((pLong (fF M fi) (i + 1)).1))), (2, .int (nI ((pLong (fF M fi) (i + 1)).2))), (3, .int (nI (i + 1)))]) (st' := []) (by rfl) (by simp [pLong, show fF M fi i 6 = 0 from d23, c31] <;> rfl) rfl ?_
        exact ih (i + 1) (show ((i + 1) ≤ n) from by omega) (by show n - (i + 1) < _; omega)
      · skip
        refine k_iload_n C 35 2 rfl rfl dX1_longestTalk_34 rfl ?_
        refine k_iconst C 36 (v := 1) (by decide) dX1_longestTalk_35 rfl ?_
        refine k_iadd C 37 dX1_longestTalk_36 rfl ?_
        refine k_teq (nI_add ((pLong (fF M fi) i).2) 1) ?_
        refine k_goto C 41 dX1_longestTalk_37 (by decide) ?_
        refine k_istore_n C 42 [(2, .int (nI (((pLong (fF M fi) i).2) + 1))), (0, .ref (ga g (37 + fi))), (1, .int (nI ((pLong (fF M fi) i).1))), (3, .int (nI i))] rfl (by decide) rfl dX1_longestTalk_41 rfl ?_
        refine k_iload_n C 43 2 rfl rfl dX1_longestTalk_42 rfl ?_
        refine k_iload_n C 44 0 rfl rfl dX1_longestTalk_43 rfl ?_
        refine k_mmax C 47 mwX1_69 (Nat.le_of_ble_eq_true rfl) dX1_longestTalk_44 rfl ?_
        refine k_teq (nI_max (a := (pLong (fF M fi) i).1) (b := ((pLong (fF M fi) i).2) + 1) (by omega) (by omega)) ?_
        refine k_istore_n C 48 [(1, .int (nI (max ((pLong (fF M fi) i).1) (((pLong (fF M fi) i).2) + 1)))), (2, .int (nI (((pLong (fF M fi) i).2) + 1))), (0, .ref (ga g (37 + fi))), (3, .int (nI i))] rfl (by decide) rfl dX1_longestTalk_47 rfl ?_
        refine k_iinc C 51 (nI (i + 1)) 3 [(3, .int (nI (i + 1))), (1, .int (nI (max ((pLong (fF M fi) i).1) (((pLong (fF M fi) i).2) + 1)))), (2, .int (nI (((pLong (fF M fi) i).2) + 1))), (0, .ref (ga g (37 + fi)))] rfl (iinc_p i) (by decide) rfl dX1_longestTalk_48 rfl ?_
        refine k_goto C 6 dX1_longestTalk_51 (by decide) ?_
        refine k_sub [(0, .ref (ga g (37 + fi))), (1, .int (nI (max ((pLong (fF M fi) i).1) (((pLong (fF M fi) i).2) + 1)))), (2, .int (nI (((pLong (fF M fi) i).2) + 1))), (3, .int (nI (i + 1)))] [3, 1, 2, 0] rfl ?_
        refine k_all (M' := M) (lo' := [(0, .ref (ga g (37 + fi))), (1, .int (nI ((pLong (fF M fi) (i + 1)).1))), (2, .int (nI ((pLong (fF M fi) (i + 1)).2))), (3, .int (nI (i + 1)))]) (st' := []) (by rfl) (by simp [pLong, show fF M fi i 6 = 0 from d23, d31] <;> rfl) rfl ?_
        exact ih (i + 1) (show ((i + 1) ≤ n) from by omega) (by show n - (i + 1) < _; omega)
