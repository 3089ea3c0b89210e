-- the class: TextReader
set_option maxHeartbeats 4000000 in
set_option maxRecDepth 20000 in
theorem qX7_isDigit (l : Launch) (g : GT) (M : Mem) (x : Int32) : CtrE l g yX7_isDigit cX7_isDigit 1 (some .boolean) 0 [.int x] M (b2i (isDg x)) M := by
  refine ctrI_of (by decide +kernel) (Nat.le_of_ble_eq_true rfl) ?_
  intro pP eE RR sS mI aG bB mE cD C
  refine k_lo (lo' := [(0, .int x)]) rfl ?_
  refine k_iload_n C 1 0 rfl rfl dX7_isDigit_0 rfl ?_
  refine k_bipush C 3 (v := 48) (by decide) dX7_isDigit_1 rfl ?_
  refine k_icmp_lt C 16 6 dX7_isDigit_3 (by decide) rfl (fun c3 => ?_) (fun d3 => ?_)
  · skip
    refine k_iconst C 17 (v := 0) (by decide) dX7_isDigit_16 rfl ?_
    refine k_ret C rfl dX7_isDigit_17 ?_
    exact ⟨b2i_neg (by simp only [isDg]; (simp only [Bool.and_eq_true, Bool.or_eq_true, Bool.and_eq_false_iff, Bool.or_eq_false_iff, decide_eq_true_eq, decide_eq_false_iff_not, Bool.not_eq_true, Bool.not_eq_false, Int32.lt_iff_toInt_lt, Int32.le_iff_toInt_le, ← Int32.toInt_inj, Int32.reduceToInt] at c3 ⊢) <;> omega), rfl⟩
  · skip
    refine k_iload_n C 7 0 rfl rfl dX7_isDigit_6 rfl ?_
    refine k_bipush C 9 (v := 57) (by decide) dX7_isDigit_7 rfl ?_
    refine k_icmp_gt C 16 12 dX7_isDigit_9 (by decide) rfl (fun c9 => ?_) (fun d9 => ?_)
    · skip
      refine k_iconst C 17 (v := 0) (by decide) dX7_isDigit_16 rfl ?_
      refine k_ret C rfl dX7_isDigit_17 ?_
      exact ⟨b2i_neg (by simp only [isDg]; (simp only [Bool.and_eq_true, Bool.or_eq_true, Bool.and_eq_false_iff, Bool.or_eq_false_iff, decide_eq_true_eq, decide_eq_false_iff_not, Bool.not_eq_true, Bool.not_eq_false, Int32.lt_iff_toInt_lt, Int32.le_iff_toInt_le, ← Int32.toInt_inj, Int32.reduceToInt] at d3 c9 ⊢) <;> omega), rfl⟩
    · skip
      refine k_iconst C 13 (v := 1) (by decide) dX7_isDigit_12 rfl ?_
      refine k_goto C 17 dX7_isDigit_13 (by decide) ?_
      refine k_ret C rfl dX7_isDigit_17 ?_
      exact ⟨b2i_pos (by simp only [isDg]; (simp only [Bool.and_eq_true, Bool.or_eq_true, Bool.and_eq_false_iff, Bool.or_eq_false_iff, decide_eq_true_eq, decide_eq_false_iff_not, Bool.not_eq_true, Bool.not_eq_false, Int32.lt_iff_toInt_lt, Int32.le_iff_toInt_le, ← Int32.toInt_inj, Int32.reduceToInt] at d3 d9 ⊢) <;> omega), rfl⟩
set_option maxHeartbeats 4000000 in
set_option maxRecDepth 20000 in
theorem qX7_levelOf (l : Launch) (g : GT) (M : Mem) (x : Int32) : CtrE l g yX7_levelOf cX7_levelOf 1 (some .int) 0 [.int x] M (pLvl x) M := by
  refine ctrI_of (by decide +kernel) (Nat.le_of_ble_eq_true rfl) ?_
  intro pP eE RR sS mI aG bB mE cD C
  refine k_lo (lo' := [(0, .int x)]) rfl ?_
  refine k_iload_n C 1 0 rfl rfl dX7_levelOf_0 rfl ?_
  by_cases w1_37 : x = 37
  · skip
    refine k_look C 100 (by decide) (by rw [w1_37]) dX7_levelOf_1 (by decide) ?_
    refine k_iconst C 101 (v := 4) (by decide) dX7_levelOf_100 rfl ?_
    refine k_ret C rfl dX7_levelOf_101 ?_
    exact ⟨by simp [pLvl, w1_37], rfl⟩
  · skip
    by_cases w1_38 : x = 38
    · skip
      refine k_look C 94 (by decide) (by rw [w1_38]) dX7_levelOf_1 (by decide) ?_
      refine k_iconst C 95 (v := 1) (by decide) dX7_levelOf_94 rfl ?_
      refine k_ret C rfl dX7_levelOf_95 ?_
      exact ⟨by simp [pLvl, w1_38], rfl⟩
    · skip
      by_cases w1_42 : x = 42
      · skip
        refine k_look C 100 (by decide) (by rw [w1_42]) dX7_levelOf_1 (by decide) ?_
        refine k_iconst C 101 (v := 4) (by decide) dX7_levelOf_100 rfl ?_
        refine k_ret C rfl dX7_levelOf_101 ?_
        exact ⟨by simp [pLvl, w1_42], rfl⟩
      · skip
        by_cases w1_43 : x = 43
        · skip
          refine k_look C 98 (by decide) (by rw [w1_43]) dX7_levelOf_1 (by decide) ?_
          refine k_iconst C 99 (v := 3) (by decide) dX7_levelOf_98 rfl ?_
          refine k_ret C rfl dX7_levelOf_99 ?_
          exact ⟨by simp [pLvl, w1_43], rfl⟩
        · skip
          by_cases w1_45 : x = 45
          · skip
            refine k_look C 98 (by decide) (by rw [w1_45]) dX7_levelOf_1 (by decide) ?_
            refine k_iconst C 99 (v := 3) (by decide) dX7_levelOf_98 rfl ?_
            refine k_ret C rfl dX7_levelOf_99 ?_
            exact ⟨by simp [pLvl, w1_45], rfl⟩
          · skip
            by_cases w1_47 : x = 47
            · skip
              refine k_look C 100 (by decide) (by rw [w1_47]) dX7_levelOf_1 (by decide) ?_
              refine k_iconst C 101 (v := 4) (by decide) dX7_levelOf_100 rfl ?_
              refine k_ret C rfl dX7_levelOf_101 ?_
              exact ⟨by simp [pLvl, w1_47], rfl⟩
            · skip
              by_cases w1_60 : x = 60
              · skip
                refine k_look C 96 (by decide) (by rw [w1_60]) dX7_levelOf_1 (by decide) ?_
                refine k_iconst C 97 (v := 2) (by decide) dX7_levelOf_96 rfl ?_
                refine k_ret C rfl dX7_levelOf_97 ?_
                exact ⟨by simp [pLvl, w1_60], rfl⟩
              · skip
                by_cases w1_61 : x = 61
                · skip
                  refine k_look C 96 (by decide) (by rw [w1_61]) dX7_levelOf_1 (by decide) ?_
                  refine k_iconst C 97 (v := 2) (by decide) dX7_levelOf_96 rfl ?_
                  refine k_ret C rfl dX7_levelOf_97 ?_
                  exact ⟨by simp [pLvl, w1_61], rfl⟩
                · skip
                  by_cases w1_62 : x = 62
                  · skip
                    refine k_look C 96 (by decide) (by rw [w1_62]) dX7_levelOf_1 (by decide) ?_
                    refine k_iconst C 97 (v := 2) (by decide) dX7_levelOf_96 rfl ?_
                    refine k_ret C rfl dX7_levelOf_97 ?_
                    exact ⟨by simp [pLvl, w1_62], rfl⟩
                  · skip
                    by_cases w1_124 : x = 124
                    · skip
                      refine k_look C 92 (by decide) (by rw [w1_124]) dX7_levelOf_1 (by decide) ?_
                      refine k_iconst C 93 (v := 0) (by decide) dX7_levelOf_92 rfl ?_
                      refine k_ret C rfl dX7_levelOf_93 ?_
                      exact ⟨by simp [pLvl, w1_124], rfl⟩
                    · skip
                      refine k_look C 102 (off := 101) (by decide) (by have z0 := i_ne w1_37 (k := 37) rfl; have z1 := i_ne w1_38 (k := 38) rfl; have z2 := i_ne w1_42 (k := 42) rfl; have z3 := i_ne w1_43 (k := 43) rfl; have z4 := i_ne w1_45 (k := 45) rfl; have z5 := i_ne w1_47 (k := 47) rfl; have z6 := i_ne w1_60 (k := 60) rfl; have z7 := i_ne w1_61 (k := 61) rfl; have z8 := i_ne w1_62 (k := 62) rfl; have z9 := i_ne w1_124 (k := 124) rfl; simp [Op.lookupswitch.offset, List.find?, beq_false_of_ne (Ne.symm z0), z0, Ne.symm z0, beq_false_of_ne (Ne.symm z1), z1, Ne.symm z1, beq_false_of_ne (Ne.symm z2), z2, Ne.symm z2, beq_false_of_ne (Ne.symm z3), z3, Ne.symm z3, beq_false_of_ne (Ne.symm z4), z4, Ne.symm z4, beq_false_of_ne (Ne.symm z5), z5, Ne.symm z5, beq_false_of_ne (Ne.symm z6), z6, Ne.symm z6, beq_false_of_ne (Ne.symm z7), z7, Ne.symm z7, beq_false_of_ne (Ne.symm z8), z8, Ne.symm z8, beq_false_of_ne (Ne.symm z9), z9, Ne.symm z9]) dX7_levelOf_1 (by decide) ?_
                      refine k_iconst C 103 (v := (-1)) (by decide) dX7_levelOf_102 rfl ?_
                      refine k_ret C rfl dX7_levelOf_103 ?_
                      exact ⟨by simp [pLvl, w1_37, w1_38, w1_42, w1_43, w1_45, w1_47, w1_60, w1_61, w1_62, w1_124], rfl⟩
set_option maxHeartbeats 4000000 in
set_option maxRecDepth 20000 in
theorem qX7_signHere (l : Launch) (g : GT) (M : Mem) {n u : Nat} (s : PS) (hH : rdH M n u) (hs : okS n s)  : CtrE l g yX7_signHere cX7_signHere 1 (some .int) 0 [.ref (ga g 77)] (rdM M s) (sgC (M 62) n s.1) (rdM M s) := by
  refine ctrI_of (by decide +kernel) (Nat.le_of_ble_eq_true rfl) ?_
  intro pP eE RR sS mI aG bB mE cD C
  refine k_lo (lo' := [(0, .ref (ga g 77))]) rfl ?_
  have hn60 := hH.2.2.2.1
  have hp := hs.1
  have hz := hs.2
  refine k_aload_n C 1 0 rfl rfl dX7_signHere_0 rfl ?_
  refine k_get C 4 flX7_29 77 (by decide) (v := .int ((rdM M s) 77 1)) (ce_77 g _) rfl dX7_signHere_1 rfl ?_
  refine k_teq (y := nI s.1) (rdM_p M s) ?_
  refine k_aload_n C 5 0 rfl rfl dX7_signHere_4 rfl ?_
  refine k_get C 8 flX7_22 77 (by decide) (v := .int ((rdM M s) 77 3)) (ce_77 g _) rfl dX7_signHere_5 rfl ?_
  refine k_teq (y := nI n) ((rdM_f M s (by decide)).trans hH.2.1) ?_
  refine k_icmp_ge C 35 11 dX7_signHere_8 (by decide) rfl (fun c8 => ?_) (fun d8 => ?_)
  · skip
    have c8 := (nI_leI (by omega) (by omega)).mp (show nI n ≤ nI s.1 from c8)
    refine k_iconst C 36 (v := 0) (by decide) dX7_signHere_35 rfl ?_
    refine k_ret C rfl dX7_signHere_36 ?_
    exact ⟨(if_neg (by omega)).symm, rfl⟩
  · skip
    have d8 := mt (nI_leI (by omega) (by omega)).mpr (show ¬ (nI n ≤ nI s.1) from d8)
    refine k_aload_n C 12 0 rfl rfl dX7_signHere_11 rfl ?_
    refine k_get C 15 flX7_29 77 (by decide) (v := .int ((rdM M s) 77 1)) (ce_77 g _) rfl dX7_signHere_12 rfl ?_
    refine k_teq (y := nI s.1) (rdM_p M s) ?_
    refine k_aload_n C 16 0 rfl rfl dX7_signHere_15 rfl ?_
    refine k_get C 19 flX7_18 77 (by decide) (v := .ref (ga g ((rdM M s) 77 2).toNatClampNeg)) (ce_77 g _) rfl dX7_signHere_16 rfl ?_
    refine k_st (st' := [.ref (ga g 62), .int (nI s.1)]) (by rw [(rdM_f M s (by decide)).trans hH.1, show (nI 62).toNatClampNeg = 62 by decide]) ?_
    refine k_alen C 20 62 1 (by decide) (ce_tp g (show 0 < 2 by decide) _) rfl (v := 60) rfl dX7_signHere_19 rfl ?_
    refine k_icmp_ge C 35 23 dX7_signHere_20 (by decide) rfl (fun c20 => ?_) (fun d20 => ?_)
    · skip
      have c20 := (nI_leI (by omega) (by omega)).mp (show nI 60 ≤ nI s.1 from c20)
      exact absurd c20 (by omega)
    · skip
      have d20 := mt (nI_leI (by omega) (by omega)).mpr (show ¬ (nI 60 ≤ nI s.1) from d20)
      refine k_aload_n C 24 0 rfl rfl dX7_signHere_23 rfl ?_
      refine k_get C 27 flX7_18 77 (by decide) (v := .ref (ga g ((rdM M s) 77 2).toNatClampNeg)) (ce_77 g _) rfl dX7_signHere_24 rfl ?_
      refine k_st (st' := [.ref (ga g 62)]) (by rw [(rdM_f M s (by decide)).trans hH.1, show (nI 62).toNatClampNeg = 62 by decide]) ?_
      refine k_aload_n C 28 0 rfl rfl dX7_signHere_27 rfl ?_
      refine k_get C 31 flX7_29 77 (by decide) (v := .int ((rdM M s) 77 1)) (ce_77 g _) rfl dX7_signHere_28 rfl ?_
      refine k_teq (y := nI s.1) (rdM_p M s) ?_
      refine k_bald C 32 62 s.1 (by decide) (ce_tp g (show 0 < 2 by decide)) (by decide) rfl (by omega) dX7_signHere_31 rfl ?_
      refine k_teq (y := M 62 s.1) (by rw [rdM_o M s (by decide) (by decide) (by decide)]) ?_
      refine k_goto C 36 dX7_signHere_32 (by decide) ?_
      refine k_ret C rfl dX7_signHere_36 ?_
      exact ⟨(if_pos (by omega)).symm, rfl⟩
set_option maxHeartbeats 4000000 in
set_option maxRecDepth 20000 in
theorem qDraftAdd (l : Launch) (g : GT) (M : Mem) (s : PS) (hz : s.2.1 ≤ 60) (x : Int32) : CtrU l g yX3_add cX3_add 2 0 [.ref (ga g 51), .int x] (rdM M s) (rdM M (psAdd s x)) := by
  refine ctrV_of (by decide +kernel) (Nat.le_of_ble_eq_true rfl) ?_
  intro pP eE RR sS mI aG bB mE cD C
  refine k_lo (lo' := [(0, .ref (ga g 51)), (1, .int x)]) rfl ?_
  refine k_aload_n C 1 0 rfl rfl dX3_add_0 rfl ?_
  refine k_get C 4 flX3_18 51 (by decide) (v := .int ((rdM M s) 51 1)) (ce_law g _ (show 4 < 5 by decide)) rfl dX3_add_1 rfl ?_
  refine k_teq (y := nI s.2.1) (rdM_z M s) ?_
  refine k_aload_n C 5 0 rfl rfl dX3_add_4 rfl ?_
  refine k_get C 8 flX3_9 51 (by decide) (v := .ref (ga g 56)) (ce_law g _ (show 4 < 5 by decide)) rfl dX3_add_5 rfl ?_
  refine k_alen C 9 56 0 (by decide) (ce_lp g (show 4 < 5 by decide) _) rfl (v := 60) rfl dX3_add_8 rfl ?_
  refine k_icmp_ge C 32 12 dX3_add_9 (by decide) rfl (fun c9 => ?_) (fun d9 => ?_)
  · skip
    have c9 := (nI_leI (by omega) (by omega)).mp (show nI 60 ≤ nI s.2.1 from c9)
    refine k_vret C dX3_add_32 ?_
    show _ = _
    unfold psAdd; rw [if_neg (by omega)]
  · skip
    have d9 := mt (nI_leI (by omega) (by omega)).mpr (show ¬ (nI 60 ≤ nI s.2.1) from d9)
    refine k_aload_n C 13 0 rfl rfl dX3_add_12 rfl ?_
    refine k_get C 16 flX3_9 51 (by decide) (v := .ref (ga g 56)) (ce_law g _ (show 4 < 5 by decide)) rfl dX3_add_13 rfl ?_
    refine k_aload_n C 17 0 rfl rfl dX3_add_16 rfl ?_
    refine k_get C 20 flX3_18 51 (by decide) (v := .int ((rdM M s) 51 1)) (ce_law g _ (show 4 < 5 by decide)) rfl dX3_add_17 rfl ?_
    refine k_teq (y := nI s.2.1) (rdM_z M s) ?_
    refine k_iload_n C 21 1 rfl rfl dX3_add_20 rfl ?_
    refine k_iast C 22 56 s.2.1 (by decide) (ce_lp g (show 4 < 5 by decide)) (by decide) rfl (by omega) dX3_add_21 rfl ?_
    refine k_aload_n C 23 0 rfl rfl dX3_add_22 rfl ?_
    refine k_dup C 24 rfl dX3_add_23 rfl ?_
    refine k_get C 27 flX3_18 51 (by decide) (v := .int ((mu (rdM M s) 56 s.2.1 x) 51 1)) (ce_law g _ (show 4 < 5 by decide)) rfl dX3_add_24 rfl ?_
    refine k_teq (show (mu (rdM M s) 56 s.2.1 x) 51 1 = (rdM M s) 51 1 by simp [mu_at]) ?_
    refine k_teq (y := nI s.2.1) (rdM_z M s) ?_
    refine k_iconst C 28 (v := 1) (by decide) dX3_add_27 rfl ?_
    refine k_iadd C 29 dX3_add_28 rfl ?_
    refine k_teq (nI_add s.2.1 1) ?_
    refine k_put C 32 flX3_18 plX3 51 (by decide) (ce_law g _ (show 4 < 5 by decide)) (ce_law g _ (show 4 < 5 by decide)) (Nat.le_of_ble_eq_true rfl) rfl rfl rfl dX3_add_29 rfl ?_
    refine k_vret C dX3_add_32 ?_
    exact rdM_add M s x (by omega)
set_option maxHeartbeats 4000000 in
set_option maxRecDepth 20000 in
theorem qX7_readNumber (l : Launch) (g : GT) (M : Mem) {n u : Nat} (s : PS) (hH : rdH M n u) (hs : okS n s)  : CtrU l g yX7_readNumber cX7_readNumber 3 1 [.ref (ga g 77)] (rdM M s) (rdM M (pDig (sgC (M 62) n) s).2) := by
  refine ctrV_of (by decide +kernel) (Nat.le_of_ble_eq_true rfl) ?_
  intro pP eE RR sS mI aG bB mE cD C
  refine k_lo (lo' := [(0, .ref (ga g 77))]) rfl ?_
  have hn60 := hH.2.2.2.1
  have hp := hs.1
  have hz := hs.2
  refine k_iconst C 1 (v := 0) (by decide) dX7_readNumber_0 rfl ?_
  refine k_istore_n C 2 [(1, .int 0), (0, .ref (ga g 77))] rfl (by decide) rfl dX7_readNumber_1 rfl ?_
  refine k_iconst C 3 (v := 0) (by decide) dX7_readNumber_2 rfl ?_
  refine k_istore_n C 4 [(2, .int 0), (1, .int 0), (0, .ref (ga g 77))] rfl (by decide) rfl dX7_readNumber_3 rfl ?_
  refine k_sub [(0, .ref (ga g 77)), (1, .int 0), (2, .int 0)] [2, 1, 0] rfl ?_
  refine k_all (M' := rdM M (s.1, s.2)) (lo' := [(0, .ref (ga g 77)), (1, .int 0), (2, .int (nI 0))]) (st' := []) (by rfl) (by rfl) rfl ?_
  refine k_loop (σ := Nat × Nat × Int32) (fun (v : Nat × Nat × Int32) => match v with | (i, p, v) => (i ≤ 4) ∧ (p ≤ n) ∧ (pNum (sgC (M 62) n) 4 s.1 0 = pNum (sgC (M 62) n) (4 - i) p v)) (fun (v : Nat × Nat × Int32) => match v with | (i, p, v) => 4 - i) (fun (v : Nat × Nat × Int32) => match v with | (i, p, v) => rdM M (p, s.2)) (fun (v : Nat × Nat × Int32) => match v with | (i, p, v) => [(0, .ref (ga g 77)), (1, .int v), (2, .int (nI i))]) (0, s.1, 0) (show (0 ≤ 4) ∧ (s.1 ≤ n) ∧ (pNum (sgC (M 62) n) 4 s.1 0 = pNum (sgC (M 62) n) (4 - 0) s.1 0) from by exact ⟨by decide, hp, rfl⟩) ?_
  rintro ⟨i, p, v⟩ hI ih
  have hI : (i ≤ 4) ∧ (p ≤ n) ∧ (pNum (sgC (M 62) n) 4 s.1 0 = pNum (sgC (M 62) n) (4 - i) p v) := hI
  obtain ⟨hi, hpn, he⟩ := hI
  show KW pP l eE RR sS mI aG bB mE cD g 3 _ (rdM M (p, s.2)) 4 [(0, .ref (ga g 77)), (1, .int v), (2, .int (nI i))] []
  refine k_iload_n C 5 2 rfl rfl dX7_readNumber_4 rfl ?_
  refine k_iconst C 6 (v := 4) (by decide) dX7_readNumber_5 rfl ?_
  refine k_icmp_ge C 48 9 dX7_readNumber_6 (by decide) rfl (fun c6 => ?_) (fun d6 => ?_)
  · skip
    have c6 := (nI_leI (by omega) (by omega)).mp (show nI 4 ≤ nI i from c6)
    have hfin : pNum (sgC (M 62) n) 4 s.1 0 = (p, v) := by
      rw [he]
      rw [show 4 - i = 0 by omega]; rfl
    refine k_aload_n C 49 0 rfl rfl dX7_readNumber_48 rfl ?_
    refine k_get C 52 flX7_12 77 (by decide) (v := .ref (ga g 51)) (ce_77 g _) rfl dX7_readNumber_49 rfl ?_
    refine k_iload_n C 53 1 rfl rfl dX7_readNumber_52 rfl ?_
    refine k_callVU C 56 (As := [.int v]) (st := []) 51 (by decide) (ce_law g _ (show 4 < 5 by decide)) rfl rfl mwX7_51 vlX3_add (qDraftAdd l g M (p, s.2) (show okS n (p, s.2) from ⟨hpn, hs.2⟩).2 v) mlX3_add (by decide) (by decide) rfl rfl (Nat.le_of_ble_eq_true rfl) dX7_readNumber_53 rfl ?_
    refine k_vret C dX7_readNumber_56 ?_
    show _ = _
    sorry
  · skip
    have d6 := mt (nI_leI (by omega) (by omega)).mpr (show ¬ (nI 4 ≤ nI i) from d6)
    refine k_aload_n C 10 0 rfl rfl dX7_readNumber_9 rfl ?_
    refine k_callVE C 13 (As := []) (st := []) 77 (by decide) (ce_77 g _) rfl rfl mwX7_43 vlX7_signHere (qX7_signHere l g M (p, s.2) hH (show okS n (p, s.2) from ⟨hpn, hs.2⟩)) mlX7_signHere (by decide) (by decide) rfl rfl (Nat.le_of_ble_eq_true rfl) dX7_readNumber_10 rfl ?_
    refine k_callSE C 16 (As := [.int (sgC (M 62) n (p, s.2).1)]) (st := []) mwX7_55 skX7_isDigit (qX7_isDigit l g (rdM M (p, s.2)) (sgC (M 62) n (p, s.2).1)) mlX7_isDigit (by decide) (by decide) rfl rfl (Nat.le_of_ble_eq_true rfl) dX7_readNumber_13 rfl ?_
    refine k_if_eqB C 48 19 dX7_readNumber_16 (by decide) rfl (fun c16 => ?_) (fun d16 => ?_)
    · skip
      have hfin : pNum (sgC (M 62) n) 4 s.1 0 = (p, v) := by
        rw [he]
        rw [show 4 - i = (4 - (i + 1)) + 1 by omega]; simp only [pNum]; rw [if_neg (by rw [c16]; decide)]
      refine k_aload_n C 49 0 rfl rfl dX7_readNumber_48 rfl ?_
      refine k_get C 52 flX7_12 77 (by decide) (v := .ref (ga g 51)) (ce_77 g _) rfl dX7_readNumber_49 rfl ?_
      refine k_iload_n C 53 1 rfl rfl dX7_readNumber_52 rfl ?_
      refine k_callVU C 56 (As := [.int v]) (st := []) 51 (by decide) (ce_law g _ (show 4 < 5 by decide)) rfl rfl mwX7_51 vlX3_add (qDraftAdd l g M (p, s.2) (show okS n (p, s.2) from ⟨hpn, hs.2⟩).2 v) mlX3_add (by decide) (by decide) rfl rfl (Nat.le_of_ble_eq_true rfl) dX7_readNumber_53 rfl ?_
      refine k_vret C dX7_readNumber_56 ?_
      show _ = _
      sorry
    · skip
      refine k_bipush C 21 (v := 10) (by decide) dX7_readNumber_19 rfl ?_
      refine k_iload_n C 22 1 rfl rfl dX7_readNumber_21 rfl ?_
      refine k_imul C 23 dX7_readNumber_22 rfl ?_
      refine k_aload_n C 24 0 rfl rfl dX7_readNumber_23 rfl ?_
      refine k_callVE C 27 (As := []) (st := [.int (10 * v)]) 77 (by decide) (ce_77 g _) rfl rfl mwX7_43 vlX7_signHere (qX7_signHere l g M (p, s.2) hH (show okS n (p, s.2) from ⟨hpn, hs.2⟩)) mlX7_signHere (by decide) (by decide) rfl rfl (Nat.le_of_ble_eq_true rfl) dX7_readNumber_24 rfl ?_
      refine k_iadd C 28 dX7_readNumber_27 rfl ?_
      refine k_bipush C 30 (v := 48) (by decide) dX7_readNumber_28 rfl ?_
      refine k_isub C 31 dX7_readNumber_30 rfl ?_
      refine k_istore_n C 32 [(1, .int (((10 * v) + (sgC (M 62) n (p, s.2).1)) - 48)), (0, .ref (ga g 77)), (2, .int (nI i))] rfl (by decide) rfl dX7_readNumber_31 rfl ?_
      refine k_aload_n C 33 1 rfl rfl dX7_readNumber_32 rfl ?_
      refine k_dup C 34 rfl dX7_readNumber_33 rfl ?_
      refine k_get C 37 flX7_29 77 (by decide) (v := .int ((rdM M (p, s.2)) 77 1)) (ce_77 g _) rfl dX7_readNumber_34 rfl ?_
      refine k_teq (y := nI p) (rdM_p M (p, s.2)) ?_
      refine k_iconst C 38 (v := 1) (by decide) dX7_readNumber_37 rfl ?_
      refine k_iadd C 39 dX7_readNumber_38 rfl ?_
      refine k_teq (nI_add p 1) ?_
      refine k_put C 42 flX7_29 plX7 77 (by decide) (ce_77 g _) (ce_77 g _) (Nat.le_of_ble_eq_true rfl) rfl rfl rfl dX7_readNumber_39 rfl ?_
      refine k_iinc C 45 (nI (i + 1)) 2 [(2, .int (nI (i + 1))), (1, .int (((10 * v) + (sgC (M 62) n (p, s.2).1)) - 48)), (0, .ref (ga g 77))] rfl (iinc_p i) (by decide) rfl dX7_readNumber_42 rfl ?_
      refine k_goto C 4 dX7_readNumber_45 (by decide) ?_
      refine k_mem (M' := rdM M (p + 1, s.2)) (rdM_num M (p, s.2) (p + 1)) ?_
      have hpl : p < n := by
        rcases Nat.lt_or_ge p n with q | q
        · exact q
        · rw [(sgC_end (M 62) n p q).1] at d16; cases d16
      refine k_sub [(0, .ref (ga g 77)), (1, .int (((10 * v) + (sgC (M 62) n (p, s.2).1)) - 48)), (2, .int (nI (i + 1)))] [2, 1, 0] rfl ?_
      refine k_all (M' := rdM M ((p + 1), s.2)) (lo' := [(0, .ref (ga g 77)), (1, .int (((10 * v) + (sgC (M 62) n (p, s.2).1)) - 48)), (2, .int (nI (i + 1)))]) (st' := []) (by rfl) (by rfl) rfl ?_
      exact ih (i + 1, p + 1, ((10 * v) + (sgC (M 62) n (p, s.2).1)) - 48) (show ((i + 1) ≤ 4) ∧ ((p + 1) ≤ n) ∧ (pNum (sgC (M 62) n) 4 s.1 0 = pNum (sgC (M 62) n) (4 - (i + 1)) (p + 1) (((10 * v) + (sgC (M 62) n (p, s.2).1)) - 48)) from by exact ⟨by omega, by omega, by rw [he, show 4 - i = (4 - (i + 1)) + 1 by omega]; simp only [pNum]; rw [if_pos d16]⟩) (by show 4 - (i + 1) < 4 - i; omega)
