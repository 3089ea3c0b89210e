-- the class: Chains, Scale, Sheet
theorem or_add : ∀ i, i < 12 → (1 : Int32) <<< (nI i &&& 31) = nI (2 ^ i) := by decide +kernel
theorem nI_big : (1000000 : Int32) = nI 1000000 := by decide +kernel
theorem rch_le (s c : Nat → Nat) (z : Nat → Bool) (u i : Nat) : rch s c z u i ≤ c i := by unfold rch; split <;> omega
theorem lay_0 (M : Mem) (k : Nat) (b z : Int32) : mu (mu M (81 + k) 1 b) (81 + k) 2 z = mrow (mu (mu M (81 + k) 1 b) (81 + k) 2 z) (85 + k) (zr 0 (M (85 + k))) := by
  funext a
  by_cases h : a = 85 + k
  · subst h; rw [mrow_s, mu_n _ _ _ (by omega), mu_n _ _ _ (by omega)]; rfl
  · rw [mrow_n _ _ h]
theorem lay_s (N : Mem) (a i : Nat) (f : Nat → Int32) : mu (mrow N a (zr i f)) a i 0 = mrow N a (zr (i + 1) f) := by
  funext q
  by_cases h : q = a
  · subst h
    rw [mu_r, mrow_s, mrow_s]
    funext j
    unfold upd zr
    by_cases e : j = i
    · subst e; rw [if_pos rfl, if_pos (by omega)]
    · rw [if_neg e]
      by_cases e2 : j < i
      · rw [if_pos e2, if_pos (by omega)]
      · rw [if_neg e2, if_neg (by omega)]
  · rw [mu_n _ _ _ h, mrow_n _ _ h, mrow_n _ _ h]

set_option maxHeartbeats 4000000 in
set_option maxRecDepth 20000 in
theorem qX0_bestAhead (l : Launch) (g : GT) (M : Mem) {fi : Nat} (hfi : fi < 3) {f : Nat} (hf : f < 12) (F : Nat → Nat → Int32) (hF : ∀ k, k ≤ f → M (12 * fi + k) = F k) (t : Nat → Nat) (ht : ∀ k, k < f → F k 6 = 0 → M 68 k = nI (t k)) (hB : ∀ k, t k ≤ 98304) : CtrE l g yX0_bestAhead cX0_bestAhead 5 (some .int) 3 [.ref (ga g 67), .ref (ga g (37 + fi)), .int (nI f)] M (nI (pBAt t F f f)) M := by
  refine ctrI_of (by decide +kernel) (Nat.le_of_ble_eq_true rfl) ?_
  intro pP eE RR sS mI aG bB mE cD C
  refine k_lo (lo' := [(0, .ref (ga g 67)), (1, .ref (ga g (37 + fi))), (2, .int (nI f))]) rfl ?_
  refine k_iconst C 1 (v := 0) (by decide) dX0_bestAhead_0 rfl ?_
  refine k_istore_n C 2 [(3, .int 0), (0, .ref (ga g 67)), (1, .ref (ga g (37 + fi))), (2, .int (nI f))] rfl (by decide) rfl dX0_bestAhead_1 rfl ?_
  refine k_iconst C 3 (v := 0) (by decide) dX0_bestAhead_2 rfl ?_
  refine k_istore C 5 [(4, .int 0), (3, .int 0), (0, .ref (ga g 67)), (1, .ref (ga g (37 + fi))), (2, .int (nI f))]  (by decide) rfl dX0_bestAhead_3 rfl ?_
  refine k_sub [(0, .ref (ga g 67)), (1, .ref (ga g (37 + fi))), (2, .int (nI f)), (3, .int 0), (4, .int 0)] [2, 3, 4, 1, 0] rfl ?_
  refine k_all (M' := M) (lo' := [(0, .ref (ga g 67)), (1, .ref (ga g (37 + fi))), (2, .int (nI f)), (3, .int (nI (pBAt t F f 0))), (4, .int (nI 0))]) (st' := []) (by rfl) (by rfl) rfl ?_
  refine k_loop (σ := Nat) (fun (i : Nat) => (i ≤ f)) (fun (i : Nat) => f - i) (fun (i : Nat) => M) (fun (i : Nat) => [(0, .ref (ga g 67)), (1, .ref (ga g (37 + fi))), (2, .int (nI f)), (3, .int (nI (pBAt t F f i))), (4, .int (nI i))]) 0 (show (0 ≤ f) from by exact Nat.zero_le _) ?_
  rintro i hI ih
  have hI : (i ≤ f) := hI
  have hi := hI
  show KW pP l eE RR sS mI aG bB mE cD g 5 _ (M) 5 [(0, .ref (ga g 67)), (1, .ref (ga g (37 + fi))), (2, .int (nI f)), (3, .int (nI (pBAt t F f i))), (4, .int (nI i))] []
  have hb := pBAt_le t F f 98304 i (fun j _ => hB j)
  have hbi := hB i
  refine k_iload C 7 4  rfl dX0_bestAhead_5 rfl ?_
  refine k_iload_n C 8 2 rfl rfl dX0_bestAhead_7 rfl ?_
  refine k_icmp_ge C 52 11 dX0_bestAhead_8 (by decide) rfl (fun c8 => ?_) (fun d8 => ?_)
  · skip
    have c8 := (nI_leI (by omega) (by omega)).mp (show nI f ≤ nI i from c8)
    refine k_iload_n C 53 3 rfl rfl dX0_bestAhead_52 rfl ?_
    refine k_ret C rfl dX0_bestAhead_53 ?_
    exact ⟨by rw [show i = f by omega], rfl⟩
  · skip
    have d8 := mt (nI_leI (by omega) (by omega)).mpr (show ¬ (nI f ≤ nI i) from d8)
    refine k_aload_n C 12 1 rfl rfl dX0_bestAhead_11 rfl ?_
    refine k_get C 15 flX0_21 (37 + fi) (lt105_fld hfi) (v := .ref (ga g (40 + fi))) (ce_fld g _ hfi) rfl dX0_bestAhead_12 rfl ?_
    refine k_iload C 17 4  rfl dX0_bestAhead_15 rfl ?_
    refine k_aald C 18 (40 + fi) i 3 (lt105_fa hfi) (ce_fa g _ hfi) rfl (by decide) rfl (by omega) dX0_bestAhead_17 rfl ?_
    refine k_st (st' := [.ref (ga g (12 * fi + i))]) rfl ?_
    refine k_get C 21 flX0_25 (12 * fi + i) (lt105_fu (fu_lt hfi (by omega))) (v := .int ((M) (12 * fi + i) 6)) (ce_fu g _ (fu_lt hfi (by omega))) rfl dX0_bestAhead_18 rfl ?_
    refine k_teq (y := F i 6) (by rw [hF i (by omega)]) ?_
    refine k_if_ne C 46 24 dX0_bestAhead_21 (by decide) rfl (fun c21 => ?_) (fun d21 => ?_)
    · skip
      refine k_iinc C 49 (nI (i + 1)) 4 [(4, .int (nI (i + 1))), (0, .ref (ga g 67)), (1, .ref (ga g (37 + fi))), (2, .int (nI f)), (3, .int (nI (pBAt t F f i)))] rfl (iinc_p i) (by decide) rfl dX0_bestAhead_46 rfl ?_
      refine k_goto C 5 dX0_bestAhead_49 (by decide) ?_
      refine k_sub [(0, .ref (ga g 67)), (1, .ref (ga g (37 + fi))), (2, .int (nI f)), (3, .int (nI (pBAt t F f i))), (4, .int (nI (i + 1)))] [1, 2, 3, 4, 0] rfl ?_
      refine k_all (M' := M) (lo' := [(0, .ref (ga g 67)), (1, .ref (ga g (37 + fi))), (2, .int (nI f)), (3, .int (nI (pBAt t F f (i + 1)))), (4, .int (nI (i + 1)))]) (st' := []) (by rfl) (by simp [pBAt, show ¬ F i 6 = 0 from c21]) rfl ?_
      exact ih (i + 1) (show ((i + 1) ≤ f) from by omega) (by show f - (i + 1) < _; omega)
    · skip
      refine k_aload_n C 25 1 rfl rfl dX0_bestAhead_24 rfl ?_
      refine k_iload_n C 26 2 rfl rfl dX0_bestAhead_25 rfl ?_
      refine k_iload C 28 4  rfl dX0_bestAhead_26 rfl ?_
      refine k_callVE C 31 (As := [.int (nI f), .int (nI i)]) (st := []) (37 + fi) (lt105_fld hfi) (ce_fld g _ hfi) rfl rfl mwX0_41 vlX1_echoes (qX1_echoes l g M hfi (a := f) (b := i) (by omega) (by omega)) mlX1_echoes (by decide) (by decide) rfl rfl (Nat.le_of_ble_eq_true rfl) dX0_bestAhead_28 rfl ?_
      refine k_teq (y := b2i (pAns (F f) (F i))) (by unfold fF; rw [hF i (by omega), hF f (by omega)]) ?_
      refine k_if_eqB C 46 34 dX0_bestAhead_31 (by decide) rfl (fun c31 => ?_) (fun d31 => ?_)
      · skip
        refine k_iinc C 49 (nI (i + 1)) 4 [(4, .int (nI (i + 1))), (0, .ref (ga g 67)), (1, .ref (ga g (37 + fi))), (2, .int (nI f)), (3, .int (nI (pBAt t F f i)))] rfl (iinc_p i) (by decide) rfl dX0_bestAhead_46 rfl ?_
        refine k_goto C 5 dX0_bestAhead_49 (by decide) ?_
        refine k_sub [(0, .ref (ga g 67)), (1, .ref (ga g (37 + fi))), (2, .int (nI f)), (3, .int (nI (pBAt t F f i))), (4, .int (nI (i + 1)))] [1, 2, 3, 4, 0] rfl ?_
        refine k_all (M' := M) (lo' := [(0, .ref (ga g 67)), (1, .ref (ga g (37 + fi))), (2, .int (nI f)), (3, .int (nI (pBAt t F f (i + 1)))), (4, .int (nI (i + 1)))]) (st' := []) (by rfl) (by simp [pBAt, show F i 6 = 0 from d21, c31]) rfl ?_
        exact ih (i + 1) (show ((i + 1) ≤ f) from by omega) (by show f - (i + 1) < _; omega)
      · skip
        refine k_iload_n C 35 3 rfl rfl dX0_bestAhead_34 rfl ?_
        refine k_aload_n C 36 0 rfl rfl dX0_bestAhead_35 rfl ?_
        refine k_get C 39 flX0_9 67 (by decide) (v := .ref (ga g 68)) (ce_67 g _) rfl dX0_bestAhead_36 rfl ?_
        refine k_iload C 41 4  rfl dX0_bestAhead_39 rfl ?_
        refine k_iald C 42 68 i (by decide) (ce_68 g) (by decide) rfl (by omega) dX0_bestAhead_41 rfl ?_
        refine k_teq (y := nI (t i)) (ht i (by omega) d21) ?_
        refine k_mmax C 45 mwX0_35 (Nat.le_of_ble_eq_true rfl) dX0_bestAhead_42 rfl ?_
        refine k_teq (nI_max (a := pBAt t F f i) (b := t i) (by omega) (by omega)) ?_
        refine k_istore_n C 46 [(3, .int (nI (max (pBAt t F f i) (t i)))), (0, .ref (ga g 67)), (1, .ref (ga g (37 + fi))), (2, .int (nI f)), (4, .int (nI i))] rfl (by decide) rfl dX0_bestAhead_45 rfl ?_
        refine k_iinc C 49 (nI (i + 1)) 4 [(4, .int (nI (i + 1))), (3, .int (nI (max (pBAt t F f i) (t i)))), (0, .ref (ga g 67)), (1, .ref (ga g (37 + fi))), (2, .int (nI f))] rfl (iinc_p i) (by decide) rfl dX0_bestAhead_46 rfl ?_
        refine k_goto C 5 dX0_bestAhead_49 (by decide) ?_
        refine k_sub [(0, .ref (ga g 67)), (1, .ref (ga g (37 + fi))), (2, .int (nI f)), (3, .int (nI (max (pBAt t F f i) (t i)))), (4, .int (nI (i + 1)))] [2, 3, 4, 1, 0] rfl ?_
        refine k_all (M' := M) (lo' := [(0, .ref (ga g 67)), (1, .ref (ga g (37 + fi))), (2, .int (nI f)), (3, .int (nI (pBAt t F f (i + 1)))), (4, .int (nI (i + 1)))]) (st' := []) (by rfl) (by simp [pBAt, show F i 6 = 0 from d21, d31]) rfl ?_
        exact ih (i + 1) (show ((i + 1) ≤ f) from by omega) (by show f - (i + 1) < _; omega)
set_option maxHeartbeats 4000000 in
set_option maxRecDepth 20000 in
theorem qX0_bestSet (l : Launch) (g : GT) (M : Mem) {fi : Nat} (hfi : fi < 3) {n : Nat} (hn : M (37 + fi) 1 = nI n) (h12 : n ≤ 12)  : CtrI l g yX0_bestSet cX0_bestSet 4 (some .int) 4 [.ref (ga g 67), .ref (ga g (37 + fi))] M (fun r M1 => r = nI (pBst (fF M fi) n % 4096) ∧ ∀ a, a ≠ 68 → M1 a = M a) := by
  refine ctrI_of (by decide +kernel) (Nat.le_of_ble_eq_true rfl) ?_
  intro pP eE RR sS mI aG bB mE cD C
  refine k_lo (lo' := [(0, .ref (ga g 67)), (1, .ref (ga g (37 + fi)))]) rfl ?_
  refine k_iconst C 1 (v := 0) (by decide) dX0_bestSet_0 rfl ?_
  refine k_istore_n C 2 [(2, .int 0), (0, .ref (ga g 67)), (1, .ref (ga g (37 + fi)))] rfl (by decide) rfl dX0_bestSet_1 rfl ?_
  refine k_iconst C 3 (v := 0) (by decide) dX0_bestSet_2 rfl ?_
  refine k_istore_n C 4 [(3, .int 0), (2, .int 0), (0, .ref (ga g 67)), (1, .ref (ga g (37 + fi)))] rfl (by decide) rfl dX0_bestSet_3 rfl ?_
  refine k_sub [(0, .ref (ga g 67)), (1, .ref (ga g (37 + fi))), (2, .int 0), (3, .int 0)] [2, 3, 1, 0] rfl ?_
  refine k_all (M' := M) (lo' := [(0, .ref (ga g 67)), (1, .ref (ga g (37 + fi))), (2, .int (nI (pBst (fF M fi) 0))), (3, .int (nI 0))]) (st' := []) (by rfl) (by rfl) rfl ?_
  refine k_loop (σ := Nat × Mem) (fun (v : Nat × Mem) => match v with | (i, M1) => (i ≤ n) ∧ (∀ a, a ≠ 68 → M1 a = M a) ∧ (∀ k, k < i → fF M fi k 6 = 0 → M1 68 k = nI (pTab (fF M fi) i k))) (fun (v : Nat × Mem) => match v with | (i, M1) => n - i) (fun (v : Nat × Mem) => match v with | (i, M1) => M1) (fun (v : Nat × Mem) => match v with | (i, M1) => [(0, .ref (ga g 67)), (1, .ref (ga g (37 + fi))), (2, .int (nI (pBst (fF M fi) i))), (3, .int (nI i))]) (0, M) (show (0 ≤ n) ∧ (∀ a, a ≠ 68 → M a = M a) ∧ (∀ k, k < 0 → fF M fi k 6 = 0 → M 68 k = nI (pTab (fF M fi) 0 k)) from by exact ⟨Nat.zero_le _, fun _ _ => rfl, fun _ h => absurd h (Nat.not_lt_zero _)⟩) ?_
  rintro ⟨i, M1⟩ hI ih
  have hI : (i ≤ n) ∧ (∀ a, a ≠ 68 → M1 a = M a) ∧ (∀ k, k < i → fF M fi k 6 = 0 → M1 68 k = nI (pTab (fF M fi) i k)) := hI
  obtain ⟨hi, hA, hT⟩ := hI
  show KW pP l eE RR sS mI aG bB mE cD g 4 _ (M1) 4 [(0, .ref (ga g 67)), (1, .ref (ga g (37 + fi))), (2, .int (nI (pBst (fF M fi) i))), (3, .int (nI i))] []
  have hb := pBst_le (fF M fi) i (by omega)
  have e68 : ∀ q, M1 (37 + fi) q = M (37 + fi) q := fun q => by rw [hA _ (by omega)]
  have ef : ∀ q, M1 (12 * fi + i) q = M (12 * fi + i) q := fun q => by rw [hA _ (by omega)]
  refine k_iload_n C 5 3 rfl rfl dX0_bestSet_4 rfl ?_
  refine k_aload_n C 6 1 rfl rfl dX0_bestSet_5 rfl ?_
  refine k_get C 9 flX0_15 (37 + fi) (lt105_fld hfi) (v := .int ((M1) (37 + fi) 1)) (ce_fld g _ hfi) rfl dX0_bestSet_6 rfl ?_
  refine k_teq (y := nI n) (by rw [e68]; exact hn) ?_
  refine k_icmp_ge C 61 12 dX0_bestSet_9 (by decide) rfl (fun c9 => ?_) (fun d9 => ?_)
  · skip
    have c9 := (nI_leI (by omega) (by omega)).mp (show nI n ≤ nI i from c9)
    refine k_iload_n C 62 2 rfl rfl dX0_bestSet_61 rfl ?_
    refine k_sipush C 65 (v := 4095) (by decide) dX0_bestSet_62 rfl ?_
    refine k_iand C 66 dX0_bestSet_65 rfl ?_
    refine k_ret C rfl dX0_bestSet_66 ?_
    exact ⟨by rw [show i = n by omega]; exact pk_andN (by have := pBst_le (fF M fi) n h12; omega) 12 (by decide), hA⟩
  · skip
    have d9 := mt (nI_leI (by omega) (by omega)).mpr (show ¬ (nI n ≤ nI i) from d9)
    refine k_aload_n C 13 1 rfl rfl dX0_bestSet_12 rfl ?_
    refine k_get C 16 flX0_21 (37 + fi) (lt105_fld hfi) (v := .ref (ga g (40 + fi))) (ce_fld g _ hfi) rfl dX0_bestSet_13 rfl ?_
    refine k_iload_n C 17 3 rfl rfl dX0_bestSet_16 rfl ?_
    refine k_aald C 18 (40 + fi) i 3 (lt105_fa hfi) (ce_fa g _ hfi) rfl (by decide) rfl (by omega) dX0_bestSet_17 rfl ?_
    refine k_st (st' := [.ref (ga g (12 * fi + i))]) rfl ?_
    refine k_get C 21 flX0_25 (12 * fi + i) (lt105_fu (fu_lt hfi (by omega))) (v := .int ((M1) (12 * fi + i) 6)) (ce_fu g _ (fu_lt hfi (by omega))) rfl dX0_bestSet_18 rfl ?_
    refine k_teq (y := M (12 * fi + i) 6) (ef 6) ?_
    refine k_if_ne C 55 24 dX0_bestSet_21 (by decide) rfl (fun c21 => ?_) (fun d21 => ?_)
    · skip
      refine k_iinc C 58 (nI (i + 1)) 3 [(3, .int (nI (i + 1))), (0, .ref (ga g 67)), (1, .ref (ga g (37 + fi))), (2, .int (nI (pBst (fF M fi) i)))] rfl (iinc_p i) (by decide) rfl dX0_bestSet_55 rfl ?_
      refine k_goto C 4 dX0_bestSet_58 (by decide) ?_
      refine k_sub [(0, .ref (ga g 67)), (1, .ref (ga g (37 + fi))), (2, .int (nI (pBst (fF M fi) i))), (3, .int (nI (i + 1)))] [1, 2, 3, 0] rfl ?_
      refine k_all (M' := M1) (lo' := [(0, .ref (ga g 67)), (1, .ref (ga g (37 + fi))), (2, .int (nI (pBst (fF M fi) (i + 1)))), (3, .int (nI (i + 1)))]) (st' := []) (by rfl) (by simp [pBst, show ¬ fF M fi i 6 = 0 from c21]) rfl ?_
      exact ih (i + 1, M1) (show ((i + 1) ≤ n) ∧ (∀ a, a ≠ 68 → M1 a = M a) ∧ (∀ k, k < (i + 1) → fF M fi k 6 = 0 → M1 68 k = nI (pTab (fF M fi) (i + 1) k)) from by exact ⟨by omega, hA, fun k hk h0 => by
              have e : k ≠ i := fun q => c21 (by subst q; exact h0)
              rw [hT k (by omega) h0]; simp [pTab, show ¬ fF M fi i 6 = 0 from c21]⟩) (by show n - (i + 1) < n - i; omega)
    · skip
      refine k_aload_n C 25 0 rfl rfl dX0_bestSet_24 rfl ?_
      refine k_get C 28 flX0_9 67 (by decide) (v := .ref (ga g 68)) (ce_67 g _) rfl dX0_bestSet_25 rfl ?_
      refine k_iload_n C 29 3 rfl rfl dX0_bestSet_28 rfl ?_
      refine k_aload_n C 30 0 rfl rfl dX0_bestSet_29 rfl ?_
      refine k_aload_n C 31 1 rfl rfl dX0_bestSet_30 rfl ?_
      refine k_iload_n C 32 3 rfl rfl dX0_bestSet_31 rfl ?_
      refine k_callVE C 35 (As := [.ref (ga g (37 + fi)), .int (nI i)]) (st := [.int (nI i), .ref (ga g 68)]) 67 (by decide) (ce_67 g _) rfl rfl mwX0_31 vlX0_bestAhead (qX0_bestAhead l g M1 hfi (f := i) (by omega) (fF M fi) (fun k hk => hA _ (by omega)) (pTab (fF M fi) i) hT (by intro k; have := pTab_le (fF M fi) i (by omega) k; exact Nat.le_trans this (by omega))) mlX0_bestAhead (by decide) (by decide) rfl rfl (Nat.le_of_ble_eq_true rfl) dX0_bestSet_32 rfl ?_
      refine k_sipush C 38 (v := 4096) (by decide) dX0_bestSet_35 rfl ?_
      refine k_iadd C 39 dX0_bestSet_38 rfl ?_
      refine k_teq (nI_add (pBAt (pTab (fF M fi) i) (fF M fi) i i) 4096) ?_
      have hb1 := pTab_le (fF M fi) (i + 1) (by omega) i
      have hTi : (nI ((pBAt (pTab (fF M fi) i) (fF M fi) i i) + 4096)) + (1 <<< ((nI i) &&& 31)) = nI (pTab (fF M fi) (i + 1) i) := by
        rw [or_add i (by omega), nI_add]
        congr 1
        simp [pTab, show fF M fi i 6 = 0 from d21]
      refine k_iconst C 40 (v := 1) (by decide) dX0_bestSet_39 rfl ?_
      refine k_iload_n C 41 3 rfl rfl dX0_bestSet_40 rfl ?_
      refine k_ishl C 42 dX0_bestSet_41 rfl ?_
      refine k_iadd C 43 dX0_bestSet_42 rfl ?_
      refine k_teq (y := nI (pTab (fF M fi) (i + 1) i)) hTi ?_
      refine k_iast C 44 68 i (by decide) (ce_68 g) (by decide) rfl (by omega) dX0_bestSet_43 rfl ?_
      refine k_iload_n C 45 2 rfl rfl dX0_bestSet_44 rfl ?_
      refine k_aload_n C 46 0 rfl rfl dX0_bestSet_45 rfl ?_
      refine k_get C 49 flX0_9 67 (by decide) (v := .ref (ga g 68)) (ce_67 g _) rfl dX0_bestSet_46 rfl ?_
      refine k_iload_n C 50 3 rfl rfl dX0_bestSet_49 rfl ?_
      refine k_iald C 51 68 i (by decide) (ce_68 g) (by decide) rfl (by omega) dX0_bestSet_50 rfl ?_
      refine k_teq (show (mu M1 68 i (nI (pTab (fF M fi) (i + 1) i))) 68 i = nI (pTab (fF M fi) (i + 1) i) by simp [mu_at]) ?_
      refine k_mmax C 54 mwX0_35 (Nat.le_of_ble_eq_true rfl) dX0_bestSet_51 rfl ?_
      refine k_teq (nI_max (a := pBst (fF M fi) i) (b := pTab (fF M fi) (i + 1) i) (by omega) (by omega)) ?_
      refine k_istore_n C 55 [(2, .int (nI (max (pBst (fF M fi) i) (pTab (fF M fi) (i + 1) i)))), (0, .ref (ga g 67)), (1, .ref (ga g (37 + fi))), (3, .int (nI i))] rfl (by decide) rfl dX0_bestSet_54 rfl ?_
      refine k_iinc C 58 (nI (i + 1)) 3 [(3, .int (nI (i + 1))), (2, .int (nI (max (pBst (fF M fi) i) (pTab (fF M fi) (i + 1) i)))), (0, .ref (ga g 67)), (1, .ref (ga g (37 + fi)))] rfl (iinc_p i) (by decide) rfl dX0_bestSet_55 rfl ?_
      refine k_goto C 4 dX0_bestSet_58 (by decide) ?_
      refine k_sub [(0, .ref (ga g 67)), (1, .ref (ga g (37 + fi))), (2, .int (nI (max (pBst (fF M fi) i) (pTab (fF M fi) (i + 1) i)))), (3, .int (nI (i + 1)))] [2, 3, 1, 0] rfl ?_
      refine k_all (M' := (mu M1 68 i (nI (pTab (fF M fi) (i + 1) i)))) (lo' := [(0, .ref (ga g 67)), (1, .ref (ga g (37 + fi))), (2, .int (nI (pBst (fF M fi) (i + 1)))), (3, .int (nI (i + 1)))]) (st' := []) (by rfl) (by simp [pBst, show fF M fi i 6 = 0 from d21]) rfl ?_
      exact ih (i + 1, mu M1 68 i (nI (pTab (fF M fi) (i + 1) i))) (show ((i + 1) ≤ n) ∧ (∀ a, a ≠ 68 → (mu M1 68 i (nI (pTab (fF M fi) (i + 1) i))) a = M a) ∧ (∀ k, k < (i + 1) → fF M fi k 6 = 0 → (mu M1 68 i (nI (pTab (fF M fi) (i + 1) i))) 68 k = nI (pTab (fF M fi) (i + 1) k)) from by exact ⟨by omega, fun a ha => by rw [mu_n _ _ _ ha]; exact hA a ha, fun k hk h0 => by
              by_cases e : k = i
              · subst e; rw [mu_s]
              · rw [mu_o _ _ _ e, hT k (by omega) h0]; simp [pTab, show fF M fi i 6 = 0 from d21, e]⟩) (by show n - (i + 1) < n - i; omega)
set_option maxHeartbeats 4000000 in
set_option maxRecDepth 20000 in
theorem qX4_cheapestUnsettled (l : Launch) (g : GT) (M : Mem) {t n : Nat} (hs : scl t n) (c : Nat → Nat) (z : Nat → Bool) (hC : ∀ i, i < n → M (73 + t) i = nI (c i)) (hZ : ∀ i, i < n → M (75 + t) i = b2i (z i)) (hc : ∀ i, i < n → c i < 2 ^ 31)  : CtrE l g yX4_cheapestUnsettled cX4_cheapestUnsettled 3 (some .int) 0 [.ref (ga g (69 + t))] M (oI (pCh c z n)) M := by
  refine ctrI_of (by decide +kernel) (Nat.le_of_ble_eq_true rfl) ?_
  intro pP eE RR sS mI aG bB mE cD C
  refine k_lo (lo' := [(0, .ref (ga g (69 + t)))]) rfl ?_
  have hn12 : n ≤ 12 := by rcases hs with ⟨_, h⟩ | ⟨_, h⟩ <;> omega
  refine k_iconst C 1 (v := (-1)) (by decide) dX4_cheapestUnsettled_0 rfl ?_
  refine k_istore_n C 2 [(1, .int (-1)), (0, .ref (ga g (69 + t)))] rfl (by decide) rfl dX4_cheapestUnsettled_1 rfl ?_
  refine k_iconst C 3 (v := 0) (by decide) dX4_cheapestUnsettled_2 rfl ?_
  refine k_istore_n C 4 [(2, .int 0), (1, .int (-1)), (0, .ref (ga g (69 + t)))] rfl (by decide) rfl dX4_cheapestUnsettled_3 rfl ?_
  refine k_sub [(0, .ref (ga g (69 + t))), (1, .int (-1)), (2, .int 0)] [2, 1, 0] rfl ?_
  refine k_all (M' := M) (lo' := [(0, .ref (ga g (69 + t))), (1, .int (oI (pCh c z 0))), (2, .int (nI 0))]) (st' := []) (by rfl) (by rfl) rfl ?_
  refine k_loop (σ := Nat) (fun (i : Nat) => (i ≤ n)) (fun (i : Nat) => n - i) (fun (i : Nat) => M) (fun (i : Nat) => [(0, .ref (ga g (69 + t))), (1, .int (oI (pCh c z i))), (2, .int (nI i))]) 0 (show (0 ≤ n) from by exact Nat.zero_le _) ?_
  rintro i hI ih
  have hI : (i ≤ n) := hI
  have hi := hI
  show KW pP l eE RR sS mI aG bB mE cD g 3 _ (M) 4 [(0, .ref (ga g (69 + t))), (1, .int (oI (pCh c z i))), (2, .int (nI i))] []
  refine k_iload_n C 5 2 rfl rfl dX4_cheapestUnsettled_4 rfl ?_
  refine k_aload_n C 6 0 rfl rfl dX4_cheapestUnsettled_5 rfl ?_
  refine k_get C 9 flX4_13 (69 + t) (lt105_sc hs) (v := .ref (ga g (73 + t))) (ce_sc g _ hs) rfl dX4_cheapestUnsettled_6 rfl ?_
  refine k_alen C 10 (73 + t) 0 (lt105_sco hs) (ce_sco g hs _) rfl (v := nI n) rfl dX4_cheapestUnsettled_9 rfl ?_
  refine k_icmp_ge C 49 13 dX4_cheapestUnsettled_10 (by decide) rfl (fun c10 => ?_) (fun d10 => ?_)
  · skip
    have c10 := (nI_leI (by omega) (by omega)).mp (show nI n ≤ nI i from c10)
    refine k_iload_n C 50 1 rfl rfl dX4_cheapestUnsettled_49 rfl ?_
    refine k_ret C rfl dX4_cheapestUnsettled_50 ?_
    exact ⟨by rw [show i = n by omega], rfl⟩
  · skip
    have d10 := mt (nI_leI (by omega) (by omega)).mpr (show ¬ (nI n ≤ nI i) from d10)
    refine k_aload_n C 14 0 rfl rfl dX4_cheapestUnsettled_13 rfl ?_
    refine k_get C 17 flX4_16 (69 + t) (lt105_sc hs) (v := .ref (ga g (75 + t))) (ce_sc g _ hs) rfl dX4_cheapestUnsettled_14 rfl ?_
    refine k_iload_n C 18 2 rfl rfl dX4_cheapestUnsettled_17 rfl ?_
    refine k_zald C 19 (75 + t) i (lt105_sse hs) (ce_sse g hs) (by rcases hs with ⟨_, h⟩ | ⟨_, h⟩ <;> omega) rfl (by omega) dX4_cheapestUnsettled_18 rfl ?_
    refine k_teq (y := b2i (z i)) (hZ i (by omega)) ?_
    refine k_if_neB C 43 22 dX4_cheapestUnsettled_19 (by decide) rfl (fun c19 => ?_) (fun d19 => ?_)
    · skip
      refine k_iinc C 46 (nI (i + 1)) 2 [(2, .int (nI (i + 1))), (0, .ref (ga g (69 + t))), (1, .int (oI (pCh c z i)))] rfl (iinc_p i) (by decide) rfl dX4_cheapestUnsettled_43 rfl ?_
      refine k_goto C 4 dX4_cheapestUnsettled_46 (by decide) ?_
      refine k_sub [(0, .ref (ga g (69 + t))), (1, .int (oI (pCh c z i))), (2, .int (nI (i + 1)))] [1, 2, 0] rfl ?_
      refine k_all (M' := M) (lo' := [(0, .ref (ga g (69 + t))), (1, .int (oI (pCh c z (i + 1)))), (2, .int (nI (i + 1)))]) (st' := []) (by rfl) (by simp [pCh, c19]) rfl ?_
      exact ih (i + 1) (show ((i + 1) ≤ n) from by omega) (by show n - (i + 1) < _; omega)
    · skip
      refine k_iload_n C 23 1 rfl rfl dX4_cheapestUnsettled_22 rfl ?_
      rcases q23 : pCh c z i with _ | b
      · skip
        have q23n := q23
        refine k_teq (y := (-1)) rfl ?_
        refine k_lo (lo' := [(0, .ref (ga g (69 + t))), (1, .int (-1)), (2, .int (nI i))]) rfl ?_
        refine k_if_lt C 41 26 dX4_cheapestUnsettled_23 (by decide) rfl (fun c23 => ?_) (fun d23 => ?_)
        · skip
          refine k_iload_n C 42 2 rfl rfl dX4_cheapestUnsettled_41 rfl ?_
          refine k_istore_n C 43 [(1, .int (nI i)), (0, .ref (ga g (69 + t))), (2, .int (nI i))] rfl (by decide) rfl dX4_cheapestUnsettled_42 rfl ?_
          refine k_iinc C 46 (nI (i + 1)) 2 [(2, .int (nI (i + 1))), (1, .int (nI i)), (0, .ref (ga g (69 + t)))] rfl (iinc_p i) (by decide) rfl dX4_cheapestUnsettled_43 rfl ?_
          refine k_goto C 4 dX4_cheapestUnsettled_46 (by decide) ?_
          refine k_sub [(0, .ref (ga g (69 + t))), (1, .int (nI i)), (2, .int (nI (i + 1)))] [2, 1, 0] rfl ?_
          refine k_all (M' := M) (lo' := [(0, .ref (ga g (69 + t))), (1, .int (oI (pCh c z (i + 1)))), (2, .int (nI (i + 1)))]) (st' := []) (by rfl) (by simp [pCh, d19, q23, oI]) rfl ?_
          exact ih (i + 1) (show ((i + 1) ≤ n) from by omega) (by show n - (i + 1) < _; omega)
        · skip
          exact absurd d23 (by decide)
      · skip
        have q23s := q23
        refine k_teq (y := nI b) rfl ?_
        refine k_lo (lo' := [(0, .ref (ga g (69 + t))), (1, .int (nI b)), (2, .int (nI i))]) rfl ?_
        have hb := pCh_some c z _ _ q23
        have hcb := hc b (by omega)
        have hci := hc i (by omega)
        refine k_if_lt C 41 26 dX4_cheapestUnsettled_23 (by decide) rfl (fun c23 => ?_) (fun d23 => ?_)
        · skip
          have c23 := (nI_ltI (by omega) (by omega)).mp (show nI b < nI 0 from c23)
          exact absurd c23 (by omega)
        · skip
          have d23 := mt (nI_ltI (by omega) (by omega)).mpr (show ¬ (nI b < nI 0) from d23)
          refine k_aload_n C 27 0 rfl rfl dX4_cheapestUnsettled_26 rfl ?_
          refine k_get C 30 flX4_13 (69 + t) (lt105_sc hs) (v := .ref (ga g (73 + t))) (ce_sc g _ hs) rfl dX4_cheapestUnsettled_27 rfl ?_
          refine k_iload_n C 31 2 rfl rfl dX4_cheapestUnsettled_30 rfl ?_
          refine k_iald C 32 (73 + t) i (lt105_sco hs) (ce_sco g hs) (by rcases hs with ⟨_, h⟩ | ⟨_, h⟩ <;> omega) rfl (by omega) dX4_cheapestUnsettled_31 rfl ?_
          refine k_teq (y := nI (c i)) (hC i (by omega)) ?_
          refine k_aload_n C 33 0 rfl rfl dX4_cheapestUnsettled_32 rfl ?_
          refine k_get C 36 flX4_13 (69 + t) (lt105_sc hs) (v := .ref (ga g (73 + t))) (ce_sc g _ hs) rfl dX4_cheapestUnsettled_33 rfl ?_
          refine k_iload_n C 37 1 rfl rfl dX4_cheapestUnsettled_36 rfl ?_
          refine k_iald C 38 (73 + t) b (lt105_sco hs) (ce_sco g hs) (by rcases hs with ⟨_, h⟩ | ⟨_, h⟩ <;> omega) rfl (by omega) dX4_cheapestUnsettled_37 rfl ?_
          refine k_teq (y := nI (c b)) (hC b (by omega)) ?_
          refine k_icmp_ge C 43 41 dX4_cheapestUnsettled_38 (by decide) rfl (fun c38 => ?_) (fun d38 => ?_)
          · skip
            have c38 := (nI_leI (by omega) (by omega)).mp (show nI (c b) ≤ nI (c i) from c38)
            refine k_iinc C 46 (nI (i + 1)) 2 [(2, .int (nI (i + 1))), (0, .ref (ga g (69 + t))), (1, .int (nI b))] rfl (iinc_p i) (by decide) rfl dX4_cheapestUnsettled_43 rfl ?_
            refine k_goto C 4 dX4_cheapestUnsettled_46 (by decide) ?_
            refine k_sub [(0, .ref (ga g (69 + t))), (1, .int (nI b)), (2, .int (nI (i + 1)))] [1, 2, 0] rfl ?_
            refine k_all (M' := M) (lo' := [(0, .ref (ga g (69 + t))), (1, .int (oI (pCh c z (i + 1)))), (2, .int (nI (i + 1)))]) (st' := []) (by rfl) (by simp [pCh, d19, q23, oI, show ¬ c i < c b by omega]) rfl ?_
            exact ih (i + 1) (show ((i + 1) ≤ n) from by omega) (by show n - (i + 1) < _; omega)
          · skip
            have d38 := mt (nI_leI (by omega) (by omega)).mpr (show ¬ (nI (c b) ≤ nI (c i)) from d38)
            refine k_iload_n C 42 2 rfl rfl dX4_cheapestUnsettled_41 rfl ?_
            refine k_istore_n C 43 [(1, .int (nI i)), (0, .ref (ga g (69 + t))), (2, .int (nI i))] rfl (by decide) rfl dX4_cheapestUnsettled_42 rfl ?_
            refine k_iinc C 46 (nI (i + 1)) 2 [(2, .int (nI (i + 1))), (1, .int (nI i)), (0, .ref (ga g (69 + t)))] rfl (iinc_p i) (by decide) rfl dX4_cheapestUnsettled_43 rfl ?_
            refine k_goto C 4 dX4_cheapestUnsettled_46 (by decide) ?_
            refine k_sub [(0, .ref (ga g (69 + t))), (1, .int (nI i)), (2, .int (nI (i + 1)))] [2, 1, 0] rfl ?_
            refine k_all (M' := M) (lo' := [(0, .ref (ga g (69 + t))), (1, .int (oI (pCh c z (i + 1)))), (2, .int (nI (i + 1)))]) (st' := []) (by rfl) (by simp [pCh, d19, q23, oI, show c i < c b by omega]) rfl ?_
            exact ih (i + 1) (show ((i + 1) ≤ n) from by omega) (by show n - (i + 1) < _; omega)
set_option maxHeartbeats 4000000 in
set_option maxRecDepth 20000 in
theorem qX4_reachFrom (l : Launch) (g : GT) (M : Mem) {t n : Nat} (hs : scl t n) (c : Nat → Nat) (z : Nat → Bool) (hC : ∀ i, i < n → M (73 + t) i = nI (c i)) (hZ : ∀ i, i < n → M (75 + t) i = b2i (z i)) (hc : ∀ i, i < n → c i < 2 ^ 31) (s : Nat → Nat) (hst : ∀ d, 1 ≤ d → d < n → M (71 + t) d = nI (s d)) (hso : sOk n s) {u : Nat} (hu : u < n) (hzu : z u = true) (hcu : c u ≤ 99) : CtrV l g yX4_reachFrom cX4_reachFrom 3 0 [.ref (ga g (69 + t)), .int (nI u)] M (fun M1 => (∀ i, i < n → M1 (73 + t) i = nI (rch s c z u i)) ∧ ∀ a, a ≠ 73 + t → M1 a = M a) := by
  refine ctrV_of (by decide +kernel) (Nat.le_of_ble_eq_true rfl) ?_
  intro pP eE RR sS mI aG bB mE cD C
  refine k_lo (lo' := [(0, .ref (ga g (69 + t))), (1, .int (nI u))]) rfl ?_
  have hn12 : n ≤ 12 := by rcases hs with ⟨_, h⟩ | ⟨_, h⟩ <;> omega
  refine k_iconst C 1 (v := 0) (by decide) dX4_reachFrom_0 rfl ?_
  refine k_istore_n C 2 [(2, .int 0), (0, .ref (ga g (69 + t))), (1, .int (nI u))] rfl (by decide) rfl dX4_reachFrom_1 rfl ?_
  refine k_sub [(0, .ref (ga g (69 + t))), (1, .int (nI u)), (2, .int 0)] [1, 2, 0] rfl ?_
  refine k_all (M' := M) (lo' := [(0, .ref (ga g (69 + t))), (1, .int (nI u)), (2, .int (nI 0))]) (st' := []) (by rfl) (by rfl) rfl ?_
  refine k_loop (σ := Nat × Mem) (fun (v : Nat × Mem) => match v with | (i, M1) => (i ≤ n) ∧ (∀ a, a ≠ 73 + t → M1 a = M a) ∧ (∀ k, k < n → M1 (73 + t) k = nI (if k < i then rch s c z u k else c k))) (fun (v : Nat × Mem) => match v with | (i, M1) => n - i) (fun (v : Nat × Mem) => match v with | (i, M1) => M1) (fun (v : Nat × Mem) => match v with | (i, M1) => [(0, .ref (ga g (69 + t))), (1, .int (nI u)), (2, .int (nI i))]) (0, M) (show (0 ≤ n) ∧ (∀ a, a ≠ 73 + t → M a = M a) ∧ (∀ k, k < n → M (73 + t) k = nI (if k < 0 then rch s c z u k else c k)) from by exact ⟨Nat.zero_le _, fun _ _ => rfl, fun k hk => by rw [hC k hk, if_neg (Nat.not_lt_zero _)]⟩) ?_
  rintro ⟨i, M1⟩ hI ih
  have hI : (i ≤ n) ∧ (∀ a, a ≠ 73 + t → M1 a = M a) ∧ (∀ k, k < n → M1 (73 + t) k = nI (if k < i then rch s c z u k else c k)) := hI
  obtain ⟨hi, hA, hV⟩ := hI
  show KW pP l eE RR sS mI aG bB mE cD g 3 _ (M1) 2 [(0, .ref (ga g (69 + t))), (1, .int (nI u)), (2, .int (nI i))] []
  refine k_iload_n C 3 2 rfl rfl dX4_reachFrom_2 rfl ?_
  refine k_aload_n C 4 0 rfl rfl dX4_reachFrom_3 rfl ?_
  refine k_get C 7 flX4_13 (69 + t) (lt105_sc hs) (v := .ref (ga g (73 + t))) (ce_sc g _ hs) rfl dX4_reachFrom_4 rfl ?_
  refine k_alen C 8 (73 + t) 0 (lt105_sco hs) (ce_sco g hs _) rfl (v := nI n) rfl dX4_reachFrom_7 rfl ?_
  refine k_icmp_ge C 59 11 dX4_reachFrom_8 (by decide) rfl (fun c8 => ?_) (fun d8 => ?_)
  · skip
    have c8 := (nI_leI (by omega) (by omega)).mp (show nI n ≤ nI i from c8)
    refine k_vret C dX4_reachFrom_59 ?_
    exact ⟨fun i2 h => by rw [hV i2 h, if_pos (by omega)], hA⟩
  · skip
    have d8 := mt (nI_leI (by omega) (by omega)).mpr (show ¬ (nI n ≤ nI i) from d8)
    refine k_aload_n C 12 0 rfl rfl dX4_reachFrom_11 rfl ?_
    refine k_get C 15 flX4_16 (69 + t) (lt105_sc hs) (v := .ref (ga g (75 + t))) (ce_sc g _ hs) rfl dX4_reachFrom_12 rfl ?_
    refine k_iload_n C 16 2 rfl rfl dX4_reachFrom_15 rfl ?_
    refine k_zald C 17 (75 + t) i (lt105_sse hs) (ce_sse g hs) (by rcases hs with ⟨_, h⟩ | ⟨_, h⟩ <;> omega) rfl (by omega) dX4_reachFrom_16 rfl ?_
    refine k_teq (y := b2i (z i)) (by rw [hA _ (by omega)]; exact hZ i (by omega)) ?_
    refine k_if_neB C 53 20 dX4_reachFrom_17 (by decide) rfl (fun c17 => ?_) (fun d17 => ?_)
    · skip
      refine k_iinc C 56 (nI (i + 1)) 2 [(2, .int (nI (i + 1))), (0, .ref (ga g (69 + t))), (1, .int (nI u))] rfl (iinc_p i) (by decide) rfl dX4_reachFrom_53 rfl ?_
      refine k_goto C 2 dX4_reachFrom_56 (by decide) ?_
      refine k_sub [(0, .ref (ga g (69 + t))), (1, .int (nI u)), (2, .int (nI (i + 1)))] [1, 2, 0] rfl ?_
      refine k_all (M' := M1) (lo' := [(0, .ref (ga g (69 + t))), (1, .int (nI u)), (2, .int (nI (i + 1)))]) (st' := []) (by rfl) (by rfl) rfl ?_
      exact ih (i + 1, M1) (show ((i + 1) ≤ n) ∧ (∀ a, a ≠ 73 + t → M1 a = M a) ∧ (∀ k, k < n → M1 (73 + t) k = nI (if k < (i + 1) then rch s c z u k else c k)) from by exact ⟨by omega, hA, fun k hk => by
              rw [hV k hk]; congr 1
              by_cases e : k = i
              · subst e; rw [if_neg (by omega), if_pos (by omega)]; unfold rch; rw [c17]; rfl
              · by_cases h : k < i
                · rw [if_pos h, if_pos (by omega)]
                · rw [if_neg h, if_neg (by omega)]⟩) (by show n - (i + 1) < n - i; omega)
    · skip
      have hiu : i ≠ u := fun q => by subst q; rw [hzu] at d17; cases d17
      have hab := ab_in (show i < n by omega) hu hiu
      have hsa := hso (ab i u) hab.1 hab.2
      have hci := hc i (by omega)
      refine k_aload_n C 21 0 rfl rfl dX4_reachFrom_20 rfl ?_
      refine k_get C 24 flX4_13 (69 + t) (lt105_sc hs) (v := .ref (ga g (73 + t))) (ce_sc g _ hs) rfl dX4_reachFrom_21 rfl ?_
      refine k_iload_n C 25 2 rfl rfl dX4_reachFrom_24 rfl ?_
      refine k_aload_n C 26 0 rfl rfl dX4_reachFrom_25 rfl ?_
      refine k_get C 29 flX4_13 (69 + t) (lt105_sc hs) (v := .ref (ga g (73 + t))) (ce_sc g _ hs) rfl dX4_reachFrom_26 rfl ?_
      refine k_iload_n C 30 2 rfl rfl dX4_reachFrom_29 rfl ?_
      refine k_iald C 31 (73 + t) i (lt105_sco hs) (ce_sco g hs) (by rcases hs with ⟨_, h⟩ | ⟨_, h⟩ <;> omega) rfl (by omega) dX4_reachFrom_30 rfl ?_
      refine k_teq (y := nI (c i)) (by rw [hV i (by omega), if_neg (by omega)]) ?_
      refine k_aload_n C 32 0 rfl rfl dX4_reachFrom_31 rfl ?_
      refine k_get C 35 flX4_13 (69 + t) (lt105_sc hs) (v := .ref (ga g (73 + t))) (ce_sc g _ hs) rfl dX4_reachFrom_32 rfl ?_
      refine k_iload_n C 36 1 rfl rfl dX4_reachFrom_35 rfl ?_
      refine k_iald C 37 (73 + t) u (lt105_sco hs) (ce_sco g hs) (by rcases hs with ⟨_, h⟩ | ⟨_, h⟩ <;> omega) rfl (by omega) dX4_reachFrom_36 rfl ?_
      refine k_teq (y := nI (c u)) (by rw [hV u hu]; split; unfold rch; rw [hzu]; rfl; rfl) ?_
      refine k_aload_n C 38 0 rfl rfl dX4_reachFrom_37 rfl ?_
      refine k_get C 41 flX4_7 (69 + t) (lt105_sc hs) (v := .ref (ga g (71 + t))) (ce_sc g _ hs) rfl dX4_reachFrom_38 rfl ?_
      refine k_iload_n C 42 2 rfl rfl dX4_reachFrom_41 rfl ?_
      refine k_iload_n C 43 1 rfl rfl dX4_reachFrom_42 rfl ?_
      refine k_isub C 44 dX4_reachFrom_43 rfl ?_
      refine k_mabs C 47 mwX4_29 (Nat.le_of_ble_eq_true rfl) dX4_reachFrom_44 rfl ?_
      refine k_teq (nI_abs (by omega) (by omega)) ?_
      refine k_iald C 48 (71 + t) (ab i u) (lt105_sst hs) (ce_sst g hs) (by rcases hs with ⟨_, h⟩ | ⟨_, h⟩ <;> omega) rfl (by omega) dX4_reachFrom_47 rfl ?_
      refine k_teq (y := nI (s (ab i u))) (by rw [hA _ (by omega)]; exact hst _ hab.1 hab.2) ?_
      refine k_iadd C 49 dX4_reachFrom_48 rfl ?_
      refine k_teq (nI_add (c u) (s (ab i u))) ?_
      refine k_mmin C 52 mwX4_35 (Nat.le_of_ble_eq_true rfl) dX4_reachFrom_49 rfl ?_
      refine k_teq (nI_min (a := c i) (b := c u + s (ab i u)) (by omega) (by omega)) ?_
      refine k_iast C 53 (73 + t) i (lt105_sco hs) (ce_sco g hs) (by rcases hs with ⟨_, h⟩ | ⟨_, h⟩ <;> omega) rfl (by omega) dX4_reachFrom_52 rfl ?_
      refine k_iinc C 56 (nI (i + 1)) 2 [(2, .int (nI (i + 1))), (0, .ref (ga g (69 + t))), (1, .int (nI u))] rfl (iinc_p i) (by decide) rfl dX4_reachFrom_53 rfl ?_
      refine k_goto C 2 dX4_reachFrom_56 (by decide) ?_
      refine k_sub [(0, .ref (ga g (69 + t))), (1, .int (nI u)), (2, .int (nI (i + 1)))] [1, 2, 0] rfl ?_
      refine k_all (M' := (mu M1 (73 + t) i (nI (min (c i) (c u + s (ab i u)))))) (lo' := [(0, .ref (ga g (69 + t))), (1, .int (nI u)), (2, .int (nI (i + 1)))]) (st' := []) (by rfl) (by rfl) rfl ?_
      exact ih (i + 1, mu M1 (73 + t) i (nI (min (c i) (c u + s (ab i u))))) (show ((i + 1) ≤ n) ∧ (∀ a, a ≠ 73 + t → (mu M1 (73 + t) i (nI (min (c i) (c u + s (ab i u))))) a = M a) ∧ (∀ k, k < n → (mu M1 (73 + t) i (nI (min (c i) (c u + s (ab i u))))) (73 + t) k = nI (if k < (i + 1) then rch s c z u k else c k)) from by exact ⟨by omega, fun a ha => by rw [mu_n _ _ _ ha]; exact hA a ha, fun k hk => by
              by_cases e : k = i
              · subst e; rw [mu_s, if_pos (by omega)]; unfold rch; rw [d17]; rfl
              · rw [mu_o _ _ _ e, hV k hk]; congr 1
                by_cases h : k < i
                · rw [if_pos h, if_pos (by omega)]
                · rw [if_neg h, if_neg (by omega)]⟩) (by show n - (i + 1) < n - i; omega)
set_option maxHeartbeats 4000000 in
set_option maxRecDepth 20000 in
theorem qX4_measureTo (l : Launch) (g : GT) (M : Mem) {t n : Nat} (hs : scl t n) (s : Nat → Nat) (hst : ∀ d, 1 ≤ d → d < n → M (71 + t) d = nI (s d)) (hso : sOk n s) {gl : Nat} (hgl : gl < n) : CtrV l g yX4_measureTo cX4_measureTo 4 1 [.ref (ga g (69 + t)), .int (nI gl)] M (fun M1 => (∃ c, (∀ i, i < n → M1 (73 + t) i = nI (c i)) ∧ isD n s gl c) ∧ ∀ a, a ≠ 73 + t → a ≠ 75 + t → M1 a = M a) := by
  refine ctrV_of (by decide +kernel) (Nat.le_of_ble_eq_true rfl) ?_
  intro pP eE RR sS mI aG bB mE cD C
  refine k_lo (lo' := [(0, .ref (ga g (69 + t))), (1, .int (nI gl))]) rfl ?_
  have hn12 : n ≤ 12 := by rcases hs with ⟨_, h⟩ | ⟨_, h⟩ <;> omega
  refine k_iconst C 1 (v := 0) (by decide) dX4_measureTo_0 rfl ?_
  refine k_istore_n C 2 [(2, .int 0), (0, .ref (ga g (69 + t))), (1, .int (nI gl))] rfl (by decide) rfl dX4_measureTo_1 rfl ?_
  refine k_sub [(0, .ref (ga g (69 + t))), (1, .int (nI gl)), (2, .int 0)] [1, 2, 0] rfl ?_
  refine k_all (M' := M) (lo' := [(0, .ref (ga g (69 + t))), (1, .int (nI gl)), (2, .int (nI 0))]) (st' := []) (by rfl) (by rfl) rfl ?_
  refine k_loop (σ := Nat × Mem) (fun (v : Nat × Mem) => match v with | (i, M1) => (i ≤ n) ∧ (∀ a, a ≠ 73 + t → a ≠ 75 + t → M1 a = M a) ∧ (∀ k, k < i → M1 (73 + t) k = nI (if k = gl then 0 else 1000000) ∧ M1 (75 + t) k = b2i false)) (fun (v : Nat × Mem) => match v with | (i, M1) => n - i) (fun (v : Nat × Mem) => match v with | (i, M1) => M1) (fun (v : Nat × Mem) => match v with | (i, M1) => [(0, .ref (ga g (69 + t))), (1, .int (nI gl)), (2, .int (nI i))]) (0, M) (show (0 ≤ n) ∧ (∀ a, a ≠ 73 + t → a ≠ 75 + t → M a = M a) ∧ (∀ k, k < 0 → M (73 + t) k = nI (if k = gl then 0 else 1000000) ∧ M (75 + t) k = b2i false) from by exact ⟨Nat.zero_le _, fun _ _ _ => rfl, fun _ h => absurd h (Nat.not_lt_zero _)⟩) ?_
  rintro ⟨i, M1⟩ hI ih
  have hI : (i ≤ n) ∧ (∀ a, a ≠ 73 + t → a ≠ 75 + t → M1 a = M a) ∧ (∀ k, k < i → M1 (73 + t) k = nI (if k = gl then 0 else 1000000) ∧ M1 (75 + t) k = b2i false) := hI
  obtain ⟨hi, hA, hV⟩ := hI
  show KW pP l eE RR sS mI aG bB mE cD g 4 _ (M1) 2 [(0, .ref (ga g (69 + t))), (1, .int (nI gl)), (2, .int (nI i))] []
  refine k_iload_n C 3 2 rfl rfl dX4_measureTo_2 rfl ?_
  refine k_aload_n C 4 0 rfl rfl dX4_measureTo_3 rfl ?_
  refine k_get C 7 flX4_13 (69 + t) (lt105_sc hs) (v := .ref (ga g (73 + t))) (ce_sc g _ hs) rfl dX4_measureTo_4 rfl ?_
  refine k_alen C 8 (73 + t) 0 (lt105_sco hs) (ce_sco g hs _) rfl (v := nI n) rfl dX4_measureTo_7 rfl ?_
  refine k_icmp_ge C 41 11 dX4_measureTo_8 (by decide) rfl (fun c8 => ?_) (fun d8 => ?_)
  · skip
    have c8 := (nI_leI (by omega) (by omega)).mp (show nI n ≤ nI i from c8)
    refine k_iconst C 42 (v := 0) (by decide) dX4_measureTo_41 rfl ?_
    refine k_istore_n C 43 [(2, .int 0), (0, .ref (ga g (69 + t))), (1, .int (nI gl))] rfl (by decide) rfl dX4_measureTo_42 rfl ?_
    refine k_sub [(0, .ref (ga g (69 + t))), (2, .int 0)] [1, 0] rfl ?_
    refine k_all (M' := M1) (lo' := [(0, .ref (ga g (69 + t))), (2, .int (nI 0))]) (st' := []) (by rfl) (by rfl) rfl ?_
    refine k_loop (σ := Nat × (Nat → Nat) × (Nat → Bool) × Mem) (fun (v : Nat × (Nat → Nat) × (Nat → Bool) × Mem) => match v with | (i, c, z, M2) => (i ≤ n) ∧ (∀ a, a ≠ 73 + t → a ≠ 75 + t → M2 a = M a) ∧ (∀ k, k < n → M2 (73 + t) k = nI (c k)) ∧ (∀ k, k < n → M2 (75 + t) k = b2i (z k)) ∧ (∀ k, k < n → c k < 2 ^ 31) ∧ (dj n s gl c z) ∧ (cntB z n = i)) (fun (v : Nat × (Nat → Nat) × (Nat → Bool) × Mem) => match v with | (i, c, z, M2) => n - i) (fun (v : Nat × (Nat → Nat) × (Nat → Bool) × Mem) => match v with | (i, c, z, M2) => M2) (fun (v : Nat × (Nat → Nat) × (Nat → Bool) × Mem) => match v with | (i, c, z, M2) => [(0, .ref (ga g (69 + t))), (2, .int (nI i))]) (0, (fun k => if k = gl then 0 else 1000000), (fun _ => false), M1) (show (0 ≤ n) ∧ (∀ a, a ≠ 73 + t → a ≠ 75 + t → M1 a = M a) ∧ (∀ k, k < n → M1 (73 + t) k = nI ((fun k => if k = gl then 0 else 1000000) k)) ∧ (∀ k, k < n → M1 (75 + t) k = b2i ((fun _ => false) k)) ∧ (∀ k, k < n → (fun k => if k = gl then 0 else 1000000) k < 2 ^ 31) ∧ (dj n s gl (fun k => if k = gl then 0 else 1000000) (fun _ => false)) ∧ (cntB (fun _ => false) n = 0) from by exact ⟨Nat.zero_le _, hA, fun k hk => (hV k (by omega)).1, fun k hk => (hV k (by omega)).2, fun k hk => by simp only; split <;> omega, Or.inl ⟨fun _ _ => rfl, fun _ _ => rfl⟩, by
          have key : ∀ m, cntB (fun _ => false) m = 0 := by
            intro m; induction m with
            | zero => rfl
            | succ m ih => simp only [cntB, ih]; rfl
          exact key n⟩) ?_
    rintro ⟨i, c, z, M2⟩ hI ih
    have hI : (i ≤ n) ∧ (∀ a, a ≠ 73 + t → a ≠ 75 + t → M2 a = M a) ∧ (∀ k, k < n → M2 (73 + t) k = nI (c k)) ∧ (∀ k, k < n → M2 (75 + t) k = b2i (z k)) ∧ (∀ k, k < n → c k < 2 ^ 31) ∧ (dj n s gl c z) ∧ (cntB z n = i) := hI
    obtain ⟨hi, hA2, hC, hZ, hcb, hD, hN⟩ := hI
    show KW pP l eE RR sS mI aG bB mE cD g 4 _ (M2) 43 [(0, .ref (ga g (69 + t))), (2, .int (nI i))] []
    refine k_iload_n C 44 1 rfl rfl dX4_measureTo_43 rfl ?_
    refine k_aload_n C 45 0 rfl rfl dX4_measureTo_44 rfl ?_
    refine k_get C 48 flX4_13 (69 + t) (lt105_sc hs) (v := .ref (ga g (73 + t))) (ce_sc g _ hs) rfl dX4_measureTo_45 rfl ?_
    refine k_alen C 49 (73 + t) 0 (lt105_sco hs) (ce_sco g hs _) rfl (v := nI n) rfl dX4_measureTo_48 rfl ?_
    refine k_icmp_ge C 79 52 dX4_measureTo_49 (by decide) rfl (fun c49 => ?_) (fun d49 => ?_)
    · skip
      have c49 := (nI_leI (by omega) (by omega)).mp (show nI n ≤ nI i from c49)
      refine k_vret C dX4_measureTo_79 ?_
      exact ⟨⟨c, hC, dj_end hgl hD (cntB_all z n (by omega))⟩, hA2⟩
    · skip
      have d49 := mt (nI_leI (by omega) (by omega)).mpr (show ¬ (nI n ≤ nI i) from d49)
      refine k_aload_n C 53 0 rfl rfl dX4_measureTo_52 rfl ?_
      refine k_callVE C 56 (As := []) (st := []) (69 + t) (lt105_sc hs) (ce_sc g _ hs) rfl rfl mwX4_21 vlX4_cheapestUnsettled (qX4_cheapestUnsettled l g M2 hs c z hC hZ hcb) mlX4_cheapestUnsettled (by decide) (by decide) rfl rfl (Nat.le_of_ble_eq_true rfl) dX4_measureTo_53 rfl ?_
      refine k_istore_n C 57 [(3, .int (oI (pCh c z n))), (0, .ref (ga g (69 + t))), (2, .int (nI i))] rfl (by decide) rfl dX4_measureTo_56 rfl ?_
      refine k_iload_n C 58 0 rfl rfl dX4_measureTo_57 rfl ?_
      rcases q58 : pCh c z n with _ | u
      · skip
        have q58n := q58
        refine k_teq (y := (-1)) rfl ?_
        refine k_lo (lo' := [(3, .int (-1)), (0, .ref (ga g (69 + t))), (2, .int (nI i))]) rfl ?_
        refine k_if_lt C 73 61 dX4_measureTo_58 (by decide) rfl (fun c58 => ?_) (fun d58 => ?_)
        · skip
          exact absurd (cntB_full z n (pCh_none c z n q58)) (by omega)
        · skip
          exact absurd d58 (by decide)
      · skip
        have q58s := q58
        refine k_teq (y := nI u) rfl ?_
        refine k_lo (lo' := [(3, .int (nI u)), (0, .ref (ga g (69 + t))), (2, .int (nI i))]) rfl ?_
        have hu := pCh_some c z _ _ q58
        refine k_if_lt C 73 61 dX4_measureTo_58 (by decide) rfl (fun c58 => ?_) (fun d58 => ?_)
        · skip
          have c58 := (nI_ltI (by omega) (by omega)).mp (show nI u < nI 0 from c58)
          exact absurd c58 (by omega)
        · skip
          have d58 := mt (nI_ltI (by omega) (by omega)).mpr (show ¬ (nI u < nI 0) from d58)
          refine k_aload_n C 62 1 rfl rfl dX4_measureTo_61 rfl ?_
          refine k_get C 65 flX4_16 (69 + t) (lt105_sc hs) (v := .ref (ga g (75 + t))) (ce_sc g _ hs) rfl dX4_measureTo_62 rfl ?_
          refine k_iload_n C 66 0 rfl rfl dX4_measureTo_65 rfl ?_
          refine k_iconst C 67 (v := 1) (by decide) dX4_measureTo_66 rfl ?_
          refine k_zast C 68 (75 + t) u (lt105_sse hs) (ce_sse g hs) (by rcases hs with ⟨_, h⟩ | ⟨_, h⟩ <;> omega) rfl (by omega) dX4_measureTo_67 rfl ?_
          refine k_aload_n C 69 1 rfl rfl dX4_measureTo_68 rfl ?_
          refine k_iload_n C 70 0 rfl rfl dX4_measureTo_69 rfl ?_
          refine k_callVV C 73 (As := [.int (nI u)]) (st := []) (69 + t) (lt105_sc hs) (ce_sc g _ hs) rfl rfl mwX4_25 vlX4_reachFrom (qX4_reachFrom l g (mu M2 (75 + t) u (vp_nar .boolean 1)) hs c (fun k => if k = u then true else z k) (fun k hk => by rw [mu_n _ _ _ (by omega)]; exact hC k hk) (fun k hk => by
              by_cases e : k = u
              · subst e; rw [mu_s]; simp; rfl
              · rw [mu_o _ _ _ e, hZ k hk]; simp [e]) hcb s (fun d h1 h2 => by rw [mu_n _ _ _ (by omega), hA2 _ (by omega) (by omega)]; exact hst d h1 h2) hso (u := u) hu.1 (by simp) (dj_step hso hgl hD hu.1 hu.2.1 hu.2.2).1) mlX4_reachFrom (by decide) (by decide) rfl rfl (Nat.le_of_ble_eq_true rfl) dX4_measureTo_70 rfl (fun M3 hM3 => ?_)
          refine k_iinc C 76 (nI (i + 1)) 2 [(2, .int (nI (i + 1))), (3, .int (nI u)), (0, .ref (ga g (69 + t)))] rfl (iinc_p i) (by decide) rfl dX4_measureTo_73 rfl ?_
          refine k_goto C 43 dX4_measureTo_76 (by decide) ?_
          refine k_sub [(0, .ref (ga g (69 + t))), (2, .int (nI (i + 1)))] [2, 0] rfl ?_
          refine k_all (M' := M3) (lo' := [(0, .ref (ga g (69 + t))), (2, .int (nI (i + 1)))]) (st' := []) (by rfl) (by rfl) rfl ?_
          exact ih (i + 1, rch s c (fun k => if k = u then true else z k) u, (fun k => if k = u then true else z k), M3) (show ((i + 1) ≤ n) ∧ (∀ a, a ≠ 73 + t → a ≠ 75 + t → M3 a = M a) ∧ (∀ k, k < n → M3 (73 + t) k = nI ((rch s c (fun k => if k = u then true else z k) u) k)) ∧ (∀ k, k < n → M3 (75 + t) k = b2i ((fun k => if k = u then true else z k) k)) ∧ (∀ k, k < n → (rch s c (fun k => if k = u then true else z k) u) k < 2 ^ 31) ∧ (dj n s gl (rch s c (fun k => if k = u then true else z k) u) (fun k => if k = u then true else z k)) ∧ (cntB (fun k => if k = u then true else z k) n = (i + 1)) from by exact ⟨by omega, fun a h1 h2 => by rw [hM3.2 a h1, mu_n _ _ _ h2]; exact hA2 a h1 h2, hM3.1, fun k hk => by
                  rw [hM3.2 _ (by omega)]
                  by_cases e : k = u
                  · subst e; rw [mu_s]; simp; rfl
                  · rw [mu_o _ _ _ e, hZ k hk]; simp [e], fun k hk => by
                  exact Nat.lt_of_le_of_lt (rch_le _ _ _ _ _) (hcb k hk), (dj_step hso hgl hD hu.1 hu.2.1 hu.2.2).2, by rw [cntB_set z u hu.2.1 n hu.1, hN]⟩) (by show n - (i + 1) < n - i; omega)
  · skip
    have d8 := mt (nI_leI (by omega) (by omega)).mpr (show ¬ (nI n ≤ nI i) from d8)
    refine k_aload_n C 12 0 rfl rfl dX4_measureTo_11 rfl ?_
    refine k_get C 15 flX4_13 (69 + t) (lt105_sc hs) (v := .ref (ga g (73 + t))) (ce_sc g _ hs) rfl dX4_measureTo_12 rfl ?_
    refine k_iload_n C 16 2 rfl rfl dX4_measureTo_15 rfl ?_
    refine k_iload_n C 17 2 rfl rfl dX4_measureTo_16 rfl ?_
    refine k_iload_n C 18 1 rfl rfl dX4_measureTo_17 rfl ?_
    refine k_icmp_ne C 25 21 dX4_measureTo_18 (by decide) rfl (fun c18 => ?_) (fun d18 => ?_)
    · skip
      have c18 := mt (nI_eq (by omega) (by omega)).mpr (show ¬ (nI i = nI gl) from c18)
      refine k_ldc C 27 cwX4_20 dX4_measureTo_25 rfl ?_
      refine k_iast C 28 (73 + t) i (lt105_sco hs) (ce_sco g hs) (by rcases hs with ⟨_, h⟩ | ⟨_, h⟩ <;> omega) rfl (by omega) dX4_measureTo_27 rfl ?_
      refine k_aload_n C 29 0 rfl rfl dX4_measureTo_28 rfl ?_
      refine k_get C 32 flX4_16 (69 + t) (lt105_sc hs) (v := .ref (ga g (75 + t))) (ce_sc g _ hs) rfl dX4_measureTo_29 rfl ?_
      refine k_iload_n C 33 2 rfl rfl dX4_measureTo_32 rfl ?_
      refine k_iconst C 34 (v := 0) (by decide) dX4_measureTo_33 rfl ?_
      refine k_zast C 35 (75 + t) i (lt105_sse hs) (ce_sse g hs) (by rcases hs with ⟨_, h⟩ | ⟨_, h⟩ <;> omega) rfl (by omega) dX4_measureTo_34 rfl ?_
      refine k_iinc C 38 (nI (i + 1)) 2 [(2, .int (nI (i + 1))), (0, .ref (ga g (69 + t))), (1, .int (nI gl))] rfl (iinc_p i) (by decide) rfl dX4_measureTo_35 rfl ?_
      refine k_goto C 2 dX4_measureTo_38 (by decide) ?_
      refine k_sub [(0, .ref (ga g (69 + t))), (1, .int (nI gl)), (2, .int (nI (i + 1)))] [1, 2, 0] rfl ?_
      refine k_all (M' := (mu (mu M1 (73 + t) i 1000000) (75 + t) i (vp_nar .boolean 0))) (lo' := [(0, .ref (ga g (69 + t))), (1, .int (nI gl)), (2, .int (nI (i + 1)))]) (st' := []) (by rfl) (by rfl) rfl ?_
      exact ih (i + 1, mu (mu M1 (73 + t) i 1000000) (75 + t) i (vp_nar .boolean 0)) (show ((i + 1) ≤ n) ∧ (∀ a, a ≠ 73 + t → a ≠ 75 + t → (mu (mu M1 (73 + t) i 1000000) (75 + t) i (vp_nar .boolean 0)) a = M a) ∧ (∀ k, k < (i + 1) → (mu (mu M1 (73 + t) i 1000000) (75 + t) i (vp_nar .boolean 0)) (73 + t) k = nI (if k = gl then 0 else 1000000) ∧ (mu (mu M1 (73 + t) i 1000000) (75 + t) i (vp_nar .boolean 0)) (75 + t) k = b2i false) from by exact ⟨by omega, fun a h1 h2 => by rw [mu_n _ _ _ h2, mu_n _ _ _ h1]; exact hA a h1 h2, fun k hk => by
              by_cases e : k = i
              · subst e; exact ⟨by rw [mu_n _ _ _ (by omega), mu_s, if_neg (by omega), nI_big], by rw [mu_s]; rfl⟩
              · exact ⟨by rw [mu_n _ _ _ (by omega), mu_o _ _ _ e]; exact (hV k (by omega)).1, by rw [mu_o _ _ _ e, mu_n _ _ _ (by omega)]; exact (hV k (by omega)).2⟩⟩) (by show n - (i + 1) < n - i; omega)
    · skip
      have d18 := (nI_eq (by omega) (by omega)).mp (show nI i = nI gl from d18)
      refine k_iconst C 22 (v := 0) (by decide) dX4_measureTo_21 rfl ?_
      refine k_goto C 27 dX4_measureTo_22 (by decide) ?_
      refine k_iast C 28 (73 + t) i (lt105_sco hs) (ce_sco g hs) (by rcases hs with ⟨_, h⟩ | ⟨_, h⟩ <;> omega) rfl (by omega) dX4_measureTo_27 rfl ?_
      refine k_aload_n C 29 0 rfl rfl dX4_measureTo_28 rfl ?_
      refine k_get C 32 flX4_16 (69 + t) (lt105_sc hs) (v := .ref (ga g (75 + t))) (ce_sc g _ hs) rfl dX4_measureTo_29 rfl ?_
      refine k_iload_n C 33 2 rfl rfl dX4_measureTo_32 rfl ?_
      refine k_iconst C 34 (v := 0) (by decide) dX4_measureTo_33 rfl ?_
      refine k_zast C 35 (75 + t) i (lt105_sse hs) (ce_sse g hs) (by rcases hs with ⟨_, h⟩ | ⟨_, h⟩ <;> omega) rfl (by omega) dX4_measureTo_34 rfl ?_
      refine k_iinc C 38 (nI (i + 1)) 2 [(2, .int (nI (i + 1))), (0, .ref (ga g (69 + t))), (1, .int (nI gl))] rfl (iinc_p i) (by decide) rfl dX4_measureTo_35 rfl ?_
      refine k_goto C 2 dX4_measureTo_38 (by decide) ?_
      refine k_sub [(0, .ref (ga g (69 + t))), (1, .int (nI gl)), (2, .int (nI (i + 1)))] [1, 2, 0] rfl ?_
      refine k_all (M' := (mu (mu M1 (73 + t) i 0) (75 + t) i (vp_nar .boolean 0))) (lo' := [(0, .ref (ga g (69 + t))), (1, .int (nI gl)), (2, .int (nI (i + 1)))]) (st' := []) (by rfl) (by rfl) rfl ?_
      exact ih (i + 1, mu (mu M1 (73 + t) i 0) (75 + t) i (vp_nar .boolean 0)) (show ((i + 1) ≤ n) ∧ (∀ a, a ≠ 73 + t → a ≠ 75 + t → (mu (mu M1 (73 + t) i 0) (75 + t) i (vp_nar .boolean 0)) a = M a) ∧ (∀ k, k < (i + 1) → (mu (mu M1 (73 + t) i 0) (75 + t) i (vp_nar .boolean 0)) (73 + t) k = nI (if k = gl then 0 else 1000000) ∧ (mu (mu M1 (73 + t) i 0) (75 + t) i (vp_nar .boolean 0)) (75 + t) k = b2i false) from by exact ⟨by omega, fun a h1 h2 => by rw [mu_n _ _ _ h2, mu_n _ _ _ h1]; exact hA a h1 h2, fun k hk => by
              by_cases e : k = i
              · subst e; exact ⟨by rw [mu_n _ _ _ (by omega), mu_s, if_pos (by omega), nI_0], by rw [mu_s]; rfl⟩
              · exact ⟨by rw [mu_n _ _ _ (by omega), mu_o _ _ _ e]; exact (hV k (by omega)).1, by rw [mu_o _ _ _ e, mu_n _ _ _ (by omega)]; exact (hV k (by omega)).2⟩⟩) (by show n - (i + 1) < n - i; omega)
set_option maxHeartbeats 4000000 in
set_option maxRecDepth 20000 in
theorem qX4_leastFirstStep (l : Launch) (g : GT) (M : Mem) {t n : Nat} (hs : scl t n) (c : Nat → Nat) (hC : ∀ i, i < n → M (73 + t) i = nI (c i)) (hc : ∀ i, i < n → c i ≤ 99) (s : Nat → Nat) (hst : ∀ d, 1 ≤ d → d < n → M (71 + t) d = nI (s d)) (hso : sOk n s) {fr : Nat} (hfr : fr < n) : CtrE l g yX4_leastFirstStep cX4_leastFirstStep 3 (some .int) 0 [.ref (ga g (69 + t)), .int (nI fr)] M (oI (pFst s c fr n 0)) M := by
  refine ctrI_of (by decide +kernel) (Nat.le_of_ble_eq_true rfl) ?_
  intro pP eE RR sS mI aG bB mE cD C
  refine k_lo (lo' := [(0, .ref (ga g (69 + t))), (1, .int (nI fr))]) rfl ?_
  have hn12 : n ≤ 12 := by rcases hs with ⟨_, h⟩ | ⟨_, h⟩ <;> omega
  refine k_iconst C 1 (v := 0) (by decide) dX4_leastFirstStep_0 rfl ?_
  refine k_istore_n C 2 [(2, .int 0), (0, .ref (ga g (69 + t))), (1, .int (nI fr))] rfl (by decide) rfl dX4_leastFirstStep_1 rfl ?_
  refine k_sub [(0, .ref (ga g (69 + t))), (1, .int (nI fr)), (2, .int 0)] [1, 2, 0] rfl ?_
  refine k_all (M' := M) (lo' := [(0, .ref (ga g (69 + t))), (1, .int (nI fr)), (2, .int (nI 0))]) (st' := []) (by rfl) (by rfl) rfl ?_
  refine k_loop (σ := Nat) (fun (i : Nat) => (i ≤ n) ∧ (pFst s c fr n 0 = pFst s c fr (n - i) i)) (fun (i : Nat) => n - i) (fun (i : Nat) => M) (fun (i : Nat) => [(0, .ref (ga g (69 + t))), (1, .int (nI fr)), (2, .int (nI i))]) 0 (show (0 ≤ n) ∧ (pFst s c fr n 0 = pFst s c fr (n - 0) 0) from by exact ⟨Nat.zero_le _, rfl⟩) ?_
  rintro i hI ih
  have hI : (i ≤ n) ∧ (pFst s c fr n 0 = pFst s c fr (n - i) i) := hI
  obtain ⟨hi, he⟩ := hI
  show KW pP l eE RR sS mI aG bB mE cD g 3 _ (M) 2 [(0, .ref (ga g (69 + t))), (1, .int (nI fr)), (2, .int (nI i))] []
  refine k_iload_n C 3 2 rfl rfl dX4_leastFirstStep_2 rfl ?_
  refine k_aload_n C 4 0 rfl rfl dX4_leastFirstStep_3 rfl ?_
  refine k_get C 7 flX4_13 (69 + t) (lt105_sc hs) (v := .ref (ga g (73 + t))) (ce_sc g _ hs) rfl dX4_leastFirstStep_4 rfl ?_
  refine k_alen C 8 (73 + t) 0 (lt105_sco hs) (ce_sco g hs _) rfl (v := nI n) rfl dX4_leastFirstStep_7 rfl ?_
  refine k_icmp_ge C 51 11 dX4_leastFirstStep_8 (by decide) rfl (fun c8 => ?_) (fun d8 => ?_)
  · skip
    have c8 := (nI_leI (by omega) (by omega)).mp (show nI n ≤ nI i from c8)
    refine k_iconst C 52 (v := (-1)) (by decide) dX4_leastFirstStep_51 rfl ?_
    refine k_ret C rfl dX4_leastFirstStep_52 ?_
    exact ⟨by rw [he, show n - i = 0 by omega]; rfl, rfl⟩
  · skip
    have d8 := mt (nI_leI (by omega) (by omega)).mpr (show ¬ (nI n ≤ nI i) from d8)
    refine k_iload_n C 12 2 rfl rfl dX4_leastFirstStep_11 rfl ?_
    refine k_iload_n C 13 1 rfl rfl dX4_leastFirstStep_12 rfl ?_
    refine k_icmp_eq C 45 16 dX4_leastFirstStep_13 (by decide) rfl (fun c13 => ?_) (fun d13 => ?_)
    · skip
      have c13 := (nI_eq (by omega) (by omega)).mp (show nI i = nI fr from c13)
      refine k_iinc C 48 (nI (i + 1)) 2 [(2, .int (nI (i + 1))), (0, .ref (ga g (69 + t))), (1, .int (nI fr))] rfl (iinc_p i) (by decide) rfl dX4_leastFirstStep_45 rfl ?_
      refine k_goto C 2 dX4_leastFirstStep_48 (by decide) ?_
      refine k_sub [(0, .ref (ga g (69 + t))), (1, .int (nI fr)), (2, .int (nI (i + 1)))] [1, 2, 0] rfl ?_
      refine k_all (M' := M) (lo' := [(0, .ref (ga g (69 + t))), (1, .int (nI fr)), (2, .int (nI (i + 1)))]) (st' := []) (by rfl) (by rfl) rfl ?_
      exact ih (i + 1) (show ((i + 1) ≤ n) ∧ (pFst s c fr n 0 = pFst s c fr (n - (i + 1)) (i + 1)) from by exact ⟨by omega, by rw [he, show n - i = (n - (i + 1)) + 1 by omega]; simp only [pFst]; rw [if_neg (fun q => q.1 c13)]⟩) (by show n - (i + 1) < _; omega)
    · skip
      have d13 := mt (nI_eq (by omega) (by omega)).mpr (show ¬ (nI i = nI fr) from d13)
      have hab := ab_in (show i < n by omega) hfr (show i ≠ fr from d13)
      have hsa := hso (ab i fr) hab.1 hab.2
      have h1 := hc i (by omega)
      have h2 := hc fr hfr
      refine k_aload_n C 17 0 rfl rfl dX4_leastFirstStep_16 rfl ?_
      refine k_get C 20 flX4_13 (69 + t) (lt105_sc hs) (v := .ref (ga g (73 + t))) (ce_sc g _ hs) rfl dX4_leastFirstStep_17 rfl ?_
      refine k_iload_n C 21 2 rfl rfl dX4_leastFirstStep_20 rfl ?_
      refine k_iald C 22 (73 + t) i (lt105_sco hs) (ce_sco g hs) (by rcases hs with ⟨_, h⟩ | ⟨_, h⟩ <;> omega) rfl (by omega) dX4_leastFirstStep_21 rfl ?_
      refine k_teq (y := nI (c i)) (hC i (by omega)) ?_
      refine k_aload_n C 23 0 rfl rfl dX4_leastFirstStep_22 rfl ?_
      refine k_get C 26 flX4_7 (69 + t) (lt105_sc hs) (v := .ref (ga g (71 + t))) (ce_sc g _ hs) rfl dX4_leastFirstStep_23 rfl ?_
      refine k_iload_n C 27 2 rfl rfl dX4_leastFirstStep_26 rfl ?_
      refine k_iload_n C 28 1 rfl rfl dX4_leastFirstStep_27 rfl ?_
      refine k_isub C 29 dX4_leastFirstStep_28 rfl ?_
      refine k_mabs C 32 mwX4_29 (Nat.le_of_ble_eq_true rfl) dX4_leastFirstStep_29 rfl ?_
      refine k_teq (nI_abs (by omega) (by omega)) ?_
      refine k_iald C 33 (71 + t) (ab i fr) (lt105_sst hs) (ce_sst g hs) (by rcases hs with ⟨_, h⟩ | ⟨_, h⟩ <;> omega) rfl (by omega) dX4_leastFirstStep_32 rfl ?_
      refine k_teq (y := nI (s (ab i fr))) (hst _ hab.1 hab.2) ?_
      refine k_iadd C 34 dX4_leastFirstStep_33 rfl ?_
      refine k_teq (nI_add (c i) (s (ab i fr))) ?_
      refine k_aload_n C 35 0 rfl rfl dX4_leastFirstStep_34 rfl ?_
      refine k_get C 38 flX4_13 (69 + t) (lt105_sc hs) (v := .ref (ga g (73 + t))) (ce_sc g _ hs) rfl dX4_leastFirstStep_35 rfl ?_
      refine k_iload_n C 39 1 rfl rfl dX4_leastFirstStep_38 rfl ?_
      refine k_iald C 40 (73 + t) fr (lt105_sco hs) (ce_sco g hs) (by rcases hs with ⟨_, h⟩ | ⟨_, h⟩ <;> omega) rfl (by omega) dX4_leastFirstStep_39 rfl ?_
      refine k_teq (y := nI (c fr)) (hC fr hfr) ?_
      refine k_icmp_ne C 45 43 dX4_leastFirstStep_40 (by decide) rfl (fun c40 => ?_) (fun d40 => ?_)
      · skip
        have c40 := mt (nI_eq (by omega) (by omega)).mpr (show ¬ (nI ((c i) + (s (ab i fr))) = nI (c fr)) from c40)
        refine k_iinc C 48 (nI (i + 1)) 2 [(2, .int (nI (i + 1))), (0, .ref (ga g (69 + t))), (1, .int (nI fr))] rfl (iinc_p i) (by decide) rfl dX4_leastFirstStep_45 rfl ?_
        refine k_goto C 2 dX4_leastFirstStep_48 (by decide) ?_
        refine k_sub [(0, .ref (ga g (69 + t))), (1, .int (nI fr)), (2, .int (nI (i + 1)))] [1, 2, 0] rfl ?_
        refine k_all (M' := M) (lo' := [(0, .ref (ga g (69 + t))), (1, .int (nI fr)), (2, .int (nI (i + 1)))]) (st' := []) (by rfl) (by rfl) rfl ?_
        exact ih (i + 1) (show ((i + 1) ≤ n) ∧ (pFst s c fr n 0 = pFst s c fr (n - (i + 1)) (i + 1)) from by exact ⟨by omega, by rw [he, show n - i = (n - (i + 1)) + 1 by omega]; simp only [pFst]; rw [if_neg (fun q => c40 q.2)]⟩) (by show n - (i + 1) < _; omega)
      · skip
        have d40 := (nI_eq (by omega) (by omega)).mp (show nI ((c i) + (s (ab i fr))) = nI (c fr) from d40)
        refine k_iload_n C 44 2 rfl rfl dX4_leastFirstStep_43 rfl ?_
        refine k_ret C rfl dX4_leastFirstStep_44 ?_
        exact ⟨by rw [he, show n - i = (n - (i + 1)) + 1 by omega]; simp only [pFst]; rw [if_pos ⟨d13, d40⟩]; rfl, rfl⟩
set_option maxHeartbeats 4000000 in
set_option maxRecDepth 20000 in
theorem qX5_isMissing (l : Launch) (g : GT) (M : Mem) {k : Nat} (hk : k < 4)  : CtrE l g yX5_isMissing cX5_isMissing 1 (some .boolean) 0 [.ref (ga g (81 + k))] M (b2i (decide (M (81 + k) 1 = 0))) M := by
  refine ctrI_of (by decide +kernel) (Nat.le_of_ble_eq_true rfl) ?_
  intro pP eE RR sS mI aG bB mE cD C
  refine k_lo (lo' := [(0, .ref (ga g (81 + k)))]) rfl ?_
  refine k_aload_n C 1 0 rfl rfl dX5_isMissing_0 rfl ?_
  refine k_get C 4 flX5_15 (81 + k) (lt105_sh hk) (v := .int ((M) (81 + k) 1)) (ce_sh g _ hk) rfl dX5_isMissing_1 rfl ?_
  refine k_if_ne C 11 7 dX5_isMissing_4 (by decide) rfl (fun c4 => ?_) (fun d4 => ?_)
  · skip
    refine k_iconst C 12 (v := 0) (by decide) dX5_isMissing_11 rfl ?_
    refine k_ret C rfl dX5_isMissing_12 ?_
    exact ⟨b2i_neg (by first | (simp [c4]; done) | (simp [] <;> simp only [Int32.lt_iff_toInt_lt, Int32.le_iff_toInt_le, ← Int32.toInt_inj, Int32.reduceToInt] at c4 ⊢ <;> omega)), rfl⟩
  · skip
    refine k_iconst C 8 (v := 1) (by decide) dX5_isMissing_7 rfl ?_
    refine k_goto C 12 dX5_isMissing_8 (by decide) ?_
    refine k_ret C rfl dX5_isMissing_12 ?_
    exact ⟨b2i_pos (by first | (simp [d4]; done) | (simp [] <;> simp only [Int32.lt_iff_toInt_lt, Int32.le_iff_toInt_le, ← Int32.toInt_inj, Int32.reduceToInt] at d4 ⊢ <;> omega)), rfl⟩
set_option maxHeartbeats 4000000 in
set_option maxRecDepth 20000 in
theorem qX5_lay (l : Launch) (g : GT) (M : Mem) {k : Nat} (hk : k < 4) (b z : Int32) : CtrU l g yX5_lay cX5_lay 4 0 [.ref (ga g (81 + k)), .int b, .int z] M (mrow (mu (mu M (81 + k) 1 b) (81 + k) 2 z) (85 + k) (zr 24 (M (85 + k)))) := by
  refine ctrV_of (by decide +kernel) (Nat.le_of_ble_eq_true rfl) ?_
  intro pP eE RR sS mI aG bB mE cD C
  refine k_lo (lo' := [(0, .ref (ga g (81 + k))), (1, .int b), (2, .int z)]) rfl ?_
  refine k_aload_n C 1 0 rfl rfl dX5_lay_0 rfl ?_
  refine k_iload_n C 2 1 rfl rfl dX5_lay_1 rfl ?_
  refine k_put C 5 flX5_15 plX5 (81 + k) (lt105_sh hk) (ce_sh g _ hk) (ce_sh g _ hk) (Nat.le_of_ble_eq_true rfl) rfl rfl rfl dX5_lay_2 rfl ?_
  refine k_aload_n C 6 0 rfl rfl dX5_lay_5 rfl ?_
  refine k_iload_n C 7 2 rfl rfl dX5_lay_6 rfl ?_
  refine k_put C 10 flX5_19 plX5 (81 + k) (lt105_sh hk) (ce_sh g _ hk) (ce_sh g _ hk) (Nat.le_of_ble_eq_true rfl) rfl rfl rfl dX5_lay_7 rfl ?_
  refine k_iconst C 11 (v := 0) (by decide) dX5_lay_10 rfl ?_
  refine k_istore_n C 12 [(3, .int 0), (0, .ref (ga g (81 + k))), (1, .int b), (2, .int z)] rfl (by decide) rfl dX5_lay_11 rfl ?_
  refine k_sub [(0, .ref (ga g (81 + k))), (3, .int 0)] [1, 0] rfl ?_
  refine k_all (M' := mrow (mu (mu M (81 + k) 1 b) (81 + k) 2 z) (85 + k) (zr 0 (M (85 + k)))) (lo' := [(0, .ref (ga g (81 + k))), (3, .int (nI 0))]) (st' := []) (by exact lay_0 M k b z) (by rfl) rfl ?_
  refine k_loop (σ := Nat) (fun (i : Nat) => (i ≤ 24)) (fun (i : Nat) => 24 - i) (fun (i : Nat) => mrow (mu (mu M (81 + k) 1 b) (81 + k) 2 z) (85 + k) (zr i (M (85 + k)))) (fun (i : Nat) => [(0, .ref (ga g (81 + k))), (3, .int (nI i))]) 0 (show (0 ≤ 24) from by exact Nat.zero_le _) ?_
  rintro i hI ih
  have hI : (i ≤ 24) := hI
  have hi := hI
  show KW pP l eE RR sS mI aG bB mE cD g 4 _ (mrow (mu (mu M (81 + k) 1 b) (81 + k) 2 z) (85 + k) (zr i (M (85 + k)))) 12 [(0, .ref (ga g (81 + k))), (3, .int (nI i))] []
  refine k_iload_n C 13 1 rfl rfl dX5_lay_12 rfl ?_
  refine k_bipush C 15 (v := 24) (by decide) dX5_lay_13 rfl ?_
  refine k_icmp_ge C 31 18 dX5_lay_15 (by decide) rfl (fun c15 => ?_) (fun d15 => ?_)
  · skip
    have c15 := (nI_leI (by omega) (by omega)).mp (show nI 24 ≤ nI i from c15)
    refine k_vret C dX5_lay_31 ?_
    show _ = _
    rw [show i = 24 by omega]
  · skip
    have d15 := mt (nI_leI (by omega) (by omega)).mpr (show ¬ (nI 24 ≤ nI i) from d15)
    refine k_aload_n C 19 0 rfl rfl dX5_lay_18 rfl ?_
    refine k_get C 22 flX5_9 (81 + k) (lt105_sh hk) (v := .ref (ga g (85 + k))) (ce_sh g _ hk) rfl dX5_lay_19 rfl ?_
    refine k_iload_n C 23 1 rfl rfl dX5_lay_22 rfl ?_
    refine k_iconst C 24 (v := 0) (by decide) dX5_lay_23 rfl ?_
    refine k_iast C 25 (85 + k) i (lt105_sn hk) (ce_sn g hk) (by decide) rfl (by omega) dX5_lay_24 rfl ?_
    refine k_iinc C 28 (nI (i + 1)) 1 [(3, .int (nI (i + 1))), (0, .ref (ga g (81 + k)))] rfl (iinc_p i) (by decide) rfl dX5_lay_25 rfl ?_
    refine k_goto C 12 dX5_lay_28 (by decide) ?_
    refine k_sub [(0, .ref (ga g (81 + k))), (3, .int (nI (i + 1)))] [1, 0] rfl ?_
    refine k_all (M' := mrow (mu (mu M (81 + k) 1 b) (81 + k) 2 z) (85 + k) (zr (i + 1) (M (85 + k)))) (lo' := [(0, .ref (ga g (81 + k))), (3, .int (nI (i + 1)))]) (st' := []) (by exact lay_s _ _ _ _) (by rfl) rfl ?_
    exact ih (i + 1) (show ((i + 1) ≤ 24) from by omega) (by show 24 - (i + 1) < _; omega)
set_option maxHeartbeats 4000000 in
set_option maxRecDepth 20000 in
theorem qX5_write (l : Launch) (g : GT) (M : Mem) {k : Nat} (hk : k < 4) {i : Nat} (hi : i < 24) (v : Int32) : CtrU l g yX5_write cX5_write 3 0 [.ref (ga g (81 + k)), .int (nI i), .int v] M (mu M (85 + k) i (pCut (M (81 + k) 1) v)) := by
  refine ctrV_of (by decide +kernel) (Nat.le_of_ble_eq_true rfl) ?_
  intro pP eE RR sS mI aG bB mE cD C
  refine k_lo (lo' := [(0, .ref (ga g (81 + k))), (1, .int (nI i)), (2, .int v)]) rfl ?_
  refine k_aload_n C 1 0 rfl rfl dX5_write_0 rfl ?_
  refine k_get C 4 flX5_9 (81 + k) (lt105_sh hk) (v := .ref (ga g (85 + k))) (ce_sh g _ hk) rfl dX5_write_1 rfl ?_
  refine k_iload_n C 5 1 rfl rfl dX5_write_4 rfl ?_
  refine k_aload_n C 6 0 rfl rfl dX5_write_5 rfl ?_
  refine k_get C 9 flX5_15 (81 + k) (lt105_sh hk) (v := .int ((M) (81 + k) 1)) (ce_sh g _ hk) rfl dX5_write_6 rfl ?_
  refine k_bipush C 11 (v := 8) (by decide) dX5_write_9 rfl ?_
  refine k_icmp_ne C 19 14 dX5_write_11 (by decide) rfl (fun c11 => ?_) (fun d11 => ?_)
  · skip
    refine k_aload_n C 20 0 rfl rfl dX5_write_19 rfl ?_
    refine k_get C 23 flX5_15 (81 + k) (lt105_sh hk) (v := .int ((M) (81 + k) 1)) (ce_sh g _ hk) rfl dX5_write_20 rfl ?_
    refine k_bipush C 25 (v := 16) (by decide) dX5_write_23 rfl ?_
    refine k_icmp_ne C 33 28 dX5_write_25 (by decide) rfl (fun c25 => ?_) (fun d25 => ?_)
    · skip
      refine k_iload_n C 34 2 rfl rfl dX5_write_33 rfl ?_
      refine k_iast C 35 (85 + k) i (lt105_sn hk) (ce_sn g hk) (by decide) rfl (by omega) dX5_write_34 rfl ?_
      refine k_vret C dX5_write_35 ?_
      show _ = _
      simp [pCut, c11, c25]
    · skip
      refine k_iload_n C 29 2 rfl rfl dX5_write_28 rfl ?_
      refine k_i2s C 30 dX5_write_29 rfl ?_
      refine k_goto C 34 dX5_write_30 (by decide) ?_
      refine k_iast C 35 (85 + k) i (lt105_sn hk) (ce_sn g hk) (by decide) rfl (by omega) dX5_write_34 rfl ?_
      refine k_vret C dX5_write_35 ?_
      show _ = _
      simp [pCut, c11, d25]
  · skip
    refine k_iload_n C 15 2 rfl rfl dX5_write_14 rfl ?_
    refine k_i2b C 16 dX5_write_15 rfl ?_
    refine k_goto C 34 dX5_write_16 (by decide) ?_
    refine k_iast C 35 (85 + k) i (lt105_sn hk) (ce_sn g hk) (by decide) rfl (by omega) dX5_write_34 rfl ?_
    refine k_vret C dX5_write_35 ?_
    show _ = _
    simp [pCut, d11]
set_option maxHeartbeats 4000000 in
set_option maxRecDepth 20000 in
theorem qX5_holds (l : Launch) (g : GT) (M : Mem) {k : Nat} (hk : k < 4) (f n : Int32) : CtrE l g yX5_holds cX5_holds 3 (some .boolean) 0 [.ref (ga g (81 + k)), .int f, .int n] M (b2i (decide (0 ≤ f) && decide (0 ≤ n) && decide (n ≤ M (81 + k) 2) && decide (f ≤ M (81 + k) 2 - n))) M := by
  refine ctrI_of (by decide +kernel) (Nat.le_of_ble_eq_true rfl) ?_
  intro pP eE RR sS mI aG bB mE cD C
  refine k_lo (lo' := [(0, .ref (ga g (81 + k))), (1, .int f), (2, .int n)]) rfl ?_
  refine k_iload_n C 1 1 rfl rfl dX5_holds_0 rfl ?_
  refine k_if_lt C 30 4 dX5_holds_1 (by decide) rfl (fun c1 => ?_) (fun d1 => ?_)
  · skip
    refine k_iconst C 31 (v := 0) (by decide) dX5_holds_30 rfl ?_
    refine k_ret C rfl dX5_holds_31 ?_
    exact ⟨b2i_neg (by (simp only [Bool.and_eq_true, Bool.or_eq_true, Bool.and_eq_false_iff, Bool.or_eq_false_iff, decide_eq_true_eq, decide_eq_false_iff_not, Bool.not_eq_true, Bool.not_eq_false, Int32.lt_iff_toInt_lt, Int32.le_iff_toInt_le, ← Int32.toInt_inj, Int32.reduceToInt] at c1 ⊢) <;> omega), rfl⟩
  · skip
    refine k_iload_n C 5 2 rfl rfl dX5_holds_4 rfl ?_
    refine k_if_lt C 30 8 dX5_holds_5 (by decide) rfl (fun c5 => ?_) (fun d5 => ?_)
    · skip
      refine k_iconst C 31 (v := 0) (by decide) dX5_holds_30 rfl ?_
      refine k_ret C rfl dX5_holds_31 ?_
      exact ⟨b2i_neg (by (simp only [Bool.and_eq_true, Bool.or_eq_true, Bool.and_eq_false_iff, Bool.or_eq_false_iff, decide_eq_true_eq, decide_eq_false_iff_not, Bool.not_eq_true, Bool.not_eq_false, Int32.lt_iff_toInt_lt, Int32.le_iff_toInt_le, ← Int32.toInt_inj, Int32.reduceToInt] at d1 c5 ⊢) <;> omega), rfl⟩
    · skip
      refine k_iload_n C 9 2 rfl rfl dX5_holds_8 rfl ?_
      refine k_aload_n C 10 0 rfl rfl dX5_holds_9 rfl ?_
      refine k_get C 13 flX5_19 (81 + k) (lt105_sh hk) (v := .int ((M) (81 + k) 2)) (ce_sh g _ hk) rfl dX5_holds_10 rfl ?_
      refine k_icmp_gt C 30 16 dX5_holds_13 (by decide) rfl (fun c13 => ?_) (fun d13 => ?_)
      · skip
        refine k_iconst C 31 (v := 0) (by decide) dX5_holds_30 rfl ?_
        refine k_ret C rfl dX5_holds_31 ?_
        exact ⟨b2i_neg (by (simp only [Bool.and_eq_true, Bool.or_eq_true, Bool.and_eq_false_iff, Bool.or_eq_false_iff, decide_eq_true_eq, decide_eq_false_iff_not, Bool.not_eq_true, Bool.not_eq_false, Int32.lt_iff_toInt_lt, Int32.le_iff_toInt_le, ← Int32.toInt_inj, Int32.reduceToInt] at d1 d5 c13 ⊢) <;> omega), rfl⟩
      · skip
        refine k_iload_n C 17 1 rfl rfl dX5_holds_16 rfl ?_
        refine k_aload_n C 18 0 rfl rfl dX5_holds_17 rfl ?_
        refine k_get C 21 flX5_19 (81 + k) (lt105_sh hk) (v := .int ((M) (81 + k) 2)) (ce_sh g _ hk) rfl dX5_holds_18 rfl ?_
        refine k_iload_n C 22 2 rfl rfl dX5_holds_21 rfl ?_
        refine k_isub C 23 dX5_holds_22 rfl ?_
        refine k_icmp_gt C 30 26 dX5_holds_23 (by decide) rfl (fun c23 => ?_) (fun d23 => ?_)
        · skip
          refine k_iconst C 31 (v := 0) (by decide) dX5_holds_30 rfl ?_
          refine k_ret C rfl dX5_holds_31 ?_
          exact ⟨b2i_neg (by (simp only [Bool.and_eq_true, Bool.or_eq_true, Bool.and_eq_false_iff, Bool.or_eq_false_iff, decide_eq_true_eq, decide_eq_false_iff_not, Bool.not_eq_true, Bool.not_eq_false, Int32.lt_iff_toInt_lt, Int32.le_iff_toInt_le, ← Int32.toInt_inj, Int32.reduceToInt] at d1 d5 d13 c23 ⊢) <;> omega), rfl⟩
        · skip
          refine k_iconst C 27 (v := 1) (by decide) dX5_holds_26 rfl ?_
          refine k_goto C 31 dX5_holds_27 (by decide) ?_
          refine k_ret C rfl dX5_holds_31 ?_
          exact ⟨b2i_pos (by (simp only [Bool.and_eq_true, Bool.or_eq_true, Bool.and_eq_false_iff, Bool.or_eq_false_iff, decide_eq_true_eq, decide_eq_false_iff_not, Bool.not_eq_true, Bool.not_eq_false, Int32.lt_iff_toInt_lt, Int32.le_iff_toInt_le, ← Int32.toInt_inj, Int32.reduceToInt] at d1 d5 d13 d23 ⊢) <;> omega), rfl⟩
