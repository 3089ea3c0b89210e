-- the class: TextReader
set_option maxHeartbeats 4000000 in
set_option maxRecDepth 20000 in
theorem qX7_isDigit (l : Launch) (g : GT) (M : Mem) (x : Int32) : CtrE l g yX7_isDigit cX7_isDigit 1 (some .boolean) 0 [.int x] M (b2i (isDg x)) M := by
  refine ctrI_of (by decide +kernel) (Nat.le_of_ble_eq_true rfl) ?_
  intro pP eE RR sS mI aG bB mE cD C
  refine k_lo (lo' := [(0, .int x)]) rfl ?_
  refine k_iload_n C 1 0 rfl rfl dX7_isDigit_0 rfl ?_
  refine k_bipush C 3 (v := 48) (by decide) dX7_isDigit_1 rfl ?_
  refine k_icmp_lt C 16 6 dX7_isDigit_3 (by decide) rfl (fun c3 => ?_) (fun d3 => ?_)
  · skip
    refine k_iconst C 17 (v := 0) (by decide) dX7_isDigit_16 rfl ?_
    refine k_ret C rfl dX7_isDigit_17 ?_
    exact ⟨b2i_neg (by simp only [isDg]; (simp only [Bool.and_eq_true, Bool.or_eq_true, Bool.and_eq_false_iff, Bool.or_eq_false_iff, decide_eq_true_eq, decide_eq_false_iff_not, Bool.not_eq_true, Bool.not_eq_false, Int32.lt_iff_toInt_lt, Int32.le_iff_toInt_le, ← Int32.toInt_inj, Int32.reduceToInt] at c3 ⊢) <;> omega), rfl⟩
  · skip
    refine k_iload_n C 7 0 rfl rfl dX7_isDigit_6 rfl ?_
    refine k_bipush C 9 (v := 57) (by decide) dX7_isDigit_7 rfl ?_
    refine k_icmp_gt C 16 12 dX7_isDigit_9 (by decide) rfl (fun c9 => ?_) (fun d9 => ?_)
    · skip
      refine k_iconst C 17 (v := 0) (by decide) dX7_isDigit_16 rfl ?_
      refine k_ret C rfl dX7_isDigit_17 ?_
      exact ⟨b2i_neg (by simp only [isDg]; (simp only [Bool.and_eq_true, Bool.or_eq_true, Bool.and_eq_false_iff, Bool.or_eq_false_iff, decide_eq_true_eq, decide_eq_false_iff_not, Bool.not_eq_true, Bool.not_eq_false, Int32.lt_iff_toInt_lt, Int32.le_iff_toInt_le, ← Int32.toInt_inj, Int32.reduceToInt] at d3 c9 ⊢) <;> omega), rfl⟩
    · skip
      refine k_iconst C 13 (v := 1) (by decide) dX7_isDigit_12 rfl ?_
      refine k_goto C 17 dX7_isDigit_13 (by decide) ?_
      refine k_ret C rfl dX7_isDigit_17 ?_
      exact ⟨b2i_pos (by simp only [isDg]; (simp only [Bool.and_eq_true, Bool.or_eq_true, Bool.and_eq_false_iff, Bool.or_eq_false_iff, decide_eq_true_eq, decide_eq_false_iff_not, Bool.not_eq_true, Bool.not_eq_false, Int32.lt_iff_toInt_lt, Int32.le_iff_toInt_le, ← Int32.toInt_inj, Int32.reduceToInt] at d3 d9 ⊢) <;> omega), rfl⟩
set_option maxHeartbeats 4000000 in
set_option maxRecDepth 20000 in
theorem qX7_levelOf (l : Launch) (g : GT) (M : Mem) (x : Int32) : CtrE l g yX7_levelOf cX7_levelOf 1 (some .int) 0 [.int x] M (pLvl x) M := by
  refine ctrI_of (by decide +kernel) (Nat.le_of_ble_eq_true rfl) ?_
  intro pP eE RR sS mI aG bB mE cD C
  refine k_lo (lo' := [(0, .int x)]) rfl ?_
  refine k_iload_n C 1 0 rfl rfl dX7_levelOf_0 rfl ?_
  by_cases w1_37 : x = 37
  · skip
    refine k_look C 100 (by decide) (by rw [w1_37]) dX7_levelOf_1 (by decide) ?_
    refine k_iconst C 101 (v := 4) (by decide) dX7_levelOf_100 rfl ?_
    refine k_ret C rfl dX7_levelOf_101 ?_
    exact ⟨by simp [pLvl, w1_37], rfl⟩
  · skip
    by_cases w1_38 : x = 38
    · skip
      refine k_look C 94 (by decide) (by rw [w1_38]) dX7_levelOf_1 (by decide) ?_
      refine k_iconst C 95 (v := 1) (by decide) dX7_levelOf_94 rfl ?_
      refine k_ret C rfl dX7_levelOf_95 ?_
      exact ⟨by simp [pLvl, w1_38], rfl⟩
    · skip
      by_cases w1_42 : x = 42
      · skip
        refine k_look C 100 (by decide) (by rw [w1_42]) dX7_levelOf_1 (by decide) ?_
        refine k_iconst C 101 (v := 4) (by decide) dX7_levelOf_100 rfl ?_
        refine k_ret C rfl dX7_levelOf_101 ?_
        exact ⟨by simp [pLvl, w1_42], rfl⟩
      · skip
        by_cases w1_43 : x = 43
        · skip
          refine k_look C 98 (by decide) (by rw [w1_43]) dX7_levelOf_1 (by decide) ?_
          refine k_iconst C 99 (v := 3) (by decide) dX7_levelOf_98 rfl ?_
          refine k_ret C rfl dX7_levelOf_99 ?_
          exact ⟨by simp [pLvl, w1_43], rfl⟩
        · skip
          by_cases w1_45 : x = 45
          · skip
            refine k_look C 98 (by decide) (by rw [w1_45]) dX7_levelOf_1 (by decide) ?_
            refine k_iconst C 99 (v := 3) (by decide) dX7_levelOf_98 rfl ?_
            refine k_ret C rfl dX7_levelOf_99 ?_
            exact ⟨by simp [pLvl, w1_45], rfl⟩
          · skip
            by_cases w1_47 : x = 47
            · skip
              refine k_look C 100 (by decide) (by rw [w1_47]) dX7_levelOf_1 (by decide) ?_
              refine k_iconst C 101 (v := 4) (by decide) dX7_levelOf_100 rfl ?_
              refine k_ret C rfl dX7_levelOf_101 ?_
              exact ⟨by simp [pLvl, w1_47], rfl⟩
            · skip
              by_cases w1_60 : x = 60
              · skip
                refine k_look C 96 (by decide) (by rw [w1_60]) dX7_levelOf_1 (by decide) ?_
                refine k_iconst C 97 (v := 2) (by decide) dX7_levelOf_96 rfl ?_
                refine k_ret C rfl dX7_levelOf_97 ?_
                exact ⟨by simp [pLvl, w1_60], rfl⟩
              · skip
                by_cases w1_61 : x = 61
                · skip
                  refine k_look C 96 (by decide) (by rw [w1_61]) dX7_levelOf_1 (by decide) ?_
                  refine k_iconst C 97 (v := 2) (by decide) dX7_levelOf_96 rfl ?_
                  refine k_ret C rfl dX7_levelOf_97 ?_
                  exact ⟨by simp [pLvl, w1_61], rfl⟩
                · skip
                  by_cases w1_62 : x = 62
                  · skip
                    refine k_look C 96 (by decide) (by rw [w1_62]) dX7_levelOf_1 (by decide) ?_
                    refine k_iconst C 97 (v := 2) (by decide) dX7_levelOf_96 rfl ?_
                    refine k_ret C rfl dX7_levelOf_97 ?_
                    exact ⟨by simp [pLvl, w1_62], rfl⟩
                  · skip
                    by_cases w1_124 : x = 124
                    · skip
                      refine k_look C 92 (by decide) (by rw [w1_124]) dX7_levelOf_1 (by decide) ?_
                      refine k_iconst C 93 (v := 0) (by decide) dX7_levelOf_92 rfl ?_
                      refine k_ret C rfl dX7_levelOf_93 ?_
                      exact ⟨by simp [pLvl, w1_124], rfl⟩
                    · skip
                      refine k_look C 102 (off := 101) (by decide) (by have z0 := i_ne w1_37 (k := 37) rfl; have z1 := i_ne w1_38 (k := 38) rfl; have z2 := i_ne w1_42 (k := 42) rfl; have z3 := i_ne w1_43 (k := 43) rfl; have z4 := i_ne w1_45 (k := 45) rfl; have z5 := i_ne w1_47 (k := 47) rfl; have z6 := i_ne w1_60 (k := 60) rfl; have z7 := i_ne w1_61 (k := 61) rfl; have z8 := i_ne w1_62 (k := 62) rfl; have z9 := i_ne w1_124 (k := 124) rfl; simp [Op.lookupswitch.offset, List.find?, beq_false_of_ne (Ne.symm z0), z0, Ne.symm z0, beq_false_of_ne (Ne.symm z1), z1, Ne.symm z1, beq_false_of_ne (Ne.symm z2), z2, Ne.symm z2, beq_false_of_ne (Ne.symm z3), z3, Ne.symm z3, beq_false_of_ne (Ne.symm z4), z4, Ne.symm z4, beq_false_of_ne (Ne.symm z5), z5, Ne.symm z5, beq_false_of_ne (Ne.symm z6), z6, Ne.symm z6, beq_false_of_ne (Ne.symm z7), z7, Ne.symm z7, beq_false_of_ne (Ne.symm z8), z8, Ne.symm z8, beq_false_of_ne (Ne.symm z9), z9, Ne.symm z9]) dX7_levelOf_1 (by decide) ?_
                      refine k_iconst C 103 (v := (-1)) (by decide) dX7_levelOf_102 rfl ?_
                      refine k_ret C rfl dX7_levelOf_103 ?_
                      exact ⟨by simp [pLvl, w1_37, w1_38, w1_42, w1_43, w1_45, w1_47, w1_60, w1_61, w1_62, w1_124], rfl⟩
set_option maxHeartbeats 4000000 in
set_option maxRecDepth 20000 in
theorem qX7_signHere (l : Launch) (g : GT) (M : Mem) {n u : Nat} (s : PS) (hH : rdH M n u) (hs : okS n s)  : CtrE l g yX7_signHere cX7_signHere 1 (some .int) 0 [.ref (ga g 77)] (rdM M s) (sgC (M 62) n s.1) (rdM M s) := by
  refine ctrI_of (by decide +kernel) (Nat.le_of_ble_eq_true rfl) ?_
  intro pP eE RR sS mI aG bB mE cD C
  refine k_lo (lo' := [(0, .ref (ga g 77))]) rfl ?_
  have hn60 := hH.2.2.2.1
  have hp := hs.1
  have hz := hs.2
  refine k_aload_n C 1 0 rfl rfl dX7_signHere_0 rfl ?_
  refine k_get C 4 flX7_29 77 (by decide) (v := .int ((rdM M s) 77 1)) (ce_77 g _) rfl dX7_signHere_1 rfl ?_
  refine k_teq (y := nI s.1) (rdM_p M s) ?_
  refine k_aload_n C 5 0 rfl rfl dX7_signHere_4 rfl ?_
  refine k_get C 8 flX7_22 77 (by decide) (v := .int ((rdM M s) 77 3)) (ce_77 g _) rfl dX7_signHere_5 rfl ?_
  refine k_teq (y := nI n) ((rdM_f M s (by decide)).trans hH.2.1) ?_
  refine k_icmp_ge C 35 11 dX7_signHere_8 (by decide) rfl (fun c8 => ?_) (fun d8 => ?_)
  · skip
    have c8 := (nI_leI (by omega) (by omega)).mp (show nI n ≤ nI s.1 from c8)
    refine k_iconst C 36 (v := 0) (by decide) dX7_signHere_35 rfl ?_
    refine k_ret C rfl dX7_signHere_36 ?_
    exact ⟨(if_neg (by omega)).symm, rfl⟩
  · skip
    have d8 := mt (nI_leI (by omega) (by omega)).mpr (show ¬ (nI n ≤ nI s.1) from d8)
    refine k_aload_n C 12 0 rfl rfl dX7_signHere_11 rfl ?_
    refine k_get C 15 flX7_29 77 (by decide) (v := .int ((rdM M s) 77 1)) (ce_77 g _) rfl dX7_signHere_12 rfl ?_
    refine k_teq (y := nI s.1) (rdM_p M s) ?_
    refine k_aload_n C 16 0 rfl rfl dX7_signHere_15 rfl ?_
    refine k_get C 19 flX7_18 77 (by decide) (v := .ref (ga g ((rdM M s) 77 2).toNatClampNeg)) (ce_77 g _) rfl dX7_signHere_16 rfl ?_
    refine k_st (st' := [.ref (ga g 62), .int (nI s.1)]) (by rw [(rdM_f M s (by decide)).trans hH.1, show (nI 62).toNatClampNeg = 62 by decide]) ?_
    refine k_alen C 20 62 1 (by decide) (ce_tp g (show 0 < 2 by decide) _) rfl (v := 60) rfl dX7_signHere_19 rfl ?_
    refine k_icmp_ge C 35 23 dX7_signHere_20 (by decide) rfl (fun c20 => ?_) (fun d20 => ?_)
    · skip
      have c20 := (nI_leI (by omega) (by omega)).mp (show nI 60 ≤ nI s.1 from c20)
      exact absurd c20 (by omega)
    · skip
      have d20 := mt (nI_leI (by omega) (by omega)).mpr (show ¬ (nI 60 ≤ nI s.1) from d20)
      refine k_aload_n C 24 0 rfl rfl dX7_signHere_23 rfl ?_
      refine k_get C 27 flX7_18 77 (by decide) (v := .ref (ga g ((rdM M s) 77 2).toNatClampNeg)) (ce_77 g _) rfl dX7_signHere_24 rfl ?_
      refine k_st (st' := [.ref (ga g 62)]) (by rw [(rdM_f M s (by decide)).trans hH.1, show (nI 62).toNatClampNeg = 62 by decide]) ?_
      refine k_aload_n C 28 0 rfl rfl dX7_signHere_27 rfl ?_
      refine k_get C 31 flX7_29 77 (by decide) (v := .int ((rdM M s) 77 1)) (ce_77 g _) rfl dX7_signHere_28 rfl ?_
      refine k_teq (y := nI s.1) (rdM_p M s) ?_
      refine k_bald C 32 62 s.1 (by decide) (ce_tp g (show 0 < 2 by decide)) (by decide) rfl (by omega) dX7_signHere_31 rfl ?_
      refine k_teq (y := M 62 s.1) (by rw [rdM_o M s (by decide) (by decide) (by decide)]) ?_
      refine k_goto C 36 dX7_signHere_32 (by decide) ?_
      refine k_ret C rfl dX7_signHere_36 ?_
      exact ⟨(if_pos (by omega)).symm, rfl⟩
set_option maxHeartbeats 4000000 in
set_option maxRecDepth 20000 in
theorem qDraftAdd (l : Launch) (g : GT) (M : Mem) (s : PS) (hz : s.2.1 ≤ 60) (x : Int32) : CtrU l g yX3_add cX3_add 2 0 [.ref (ga g 51), .int x] (rdM M s) (rdM M (psAdd s x)) := by
  refine ctrV_of (by decide +kernel) (Nat.le_of_ble_eq_true rfl) ?_
  intro pP eE RR sS mI aG bB mE cD C
  refine k_lo (lo' := [(0, .ref (ga g 51)), (1, .int x)]) rfl ?_
  refine k_aload_n C 1 0 rfl rfl dX3_add_0 rfl ?_
  refine k_get C 4 flX3_18 51 (by decide) (v := .int ((rdM M s) 51 1)) (ce_law g _ (show 4 < 5 by decide)) rfl dX3_add_1 rfl ?_
  refine k_teq (y := nI s.2.1) (rdM_z M s) ?_
  refine k_aload_n C 5 0 rfl rfl dX3_add_4 rfl ?_
  refine k_get C 8 flX3_9 51 (by decide) (v := .ref (ga g 56)) (ce_law g _ (show 4 < 5 by decide)) rfl dX3_add_5 rfl ?_
  refine k_alen C 9 56 0 (by decide) (ce_lp g (show 4 < 5 by decide) _) rfl (v := 60) rfl dX3_add_8 rfl ?_
  refine k_icmp_ge C 32 12 dX3_add_9 (by decide) rfl (fun c9 => ?_) (fun d9 => ?_)
  · skip
    have c9 := (nI_leI (by omega) (by omega)).mp (show nI 60 ≤ nI s.2.1 from c9)
    refine k_vret C dX3_add_32 ?_
    show _ = _
    unfold psAdd; rw [if_neg (by omega)]
  · skip
    have d9 := mt (nI_leI (by omega) (by omega)).mpr (show ¬ (nI 60 ≤ nI s.2.1) from d9)
    refine k_aload_n C 13 0 rfl rfl dX3_add_12 rfl ?_
    refine k_get C 16 flX3_9 51 (by decide) (v := .ref (ga g 56)) (ce_law g _ (show 4 < 5 by decide)) rfl dX3_add_13 rfl ?_
    refine k_aload_n C 17 0 rfl rfl dX3_add_16 rfl ?_
    refine k_get C 20 flX3_18 51 (by decide) (v := .int ((rdM M s) 51 1)) (ce_law g _ (show 4 < 5 by decide)) rfl dX3_add_17 rfl ?_
    refine k_teq (y := nI s.2.1) (rdM_z M s) ?_
    refine k_iload_n C 21 1 rfl rfl dX3_add_20 rfl ?_
    refine k_iast C 22 56 s.2.1 (by decide) (ce_lp g (show 4 < 5 by decide)) (by decide) rfl (by omega) dX3_add_21 rfl ?_
    refine k_aload_n C 23 0 rfl rfl dX3_add_22 rfl ?_
    refine k_dup C 24 rfl dX3_add_23 rfl ?_
    refine k_get C 27 flX3_18 51 (by decide) (v := .int ((mu (rdM M s) 56 s.2.1 x) 51 1)) (ce_law g _ (show 4 < 5 by decide)) rfl dX3_add_24 rfl ?_
    refine k_teq (show (mu (rdM M s) 56 s.2.1 x) 51 1 = (rdM M s) 51 1 by simp [mu_at]) ?_
    refine k_teq (y := nI s.2.1) (rdM_z M s) ?_
    refine k_iconst C 28 (v := 1) (by decide) dX3_add_27 rfl ?_
    refine k_iadd C 29 dX3_add_28 rfl ?_
    refine k_teq (nI_add s.2.1 1) ?_
    refine k_put C 32 flX3_18 plX3 51 (by decide) (ce_law g _ (show 4 < 5 by decide)) (ce_law g _ (show 4 < 5 by decide)) (Nat.le_of_ble_eq_true rfl) rfl rfl rfl dX3_add_29 rfl ?_
    refine k_vret C dX3_add_32 ?_
    exact rdM_add M s x (by omega)
set_option maxHeartbeats 4000000 in
set_option maxRecDepth 20000 in
theorem qX7_readNumber (l : Launch) (g : GT) (M : Mem) {n u : Nat} (s : PS) (hH : rdH M n u) (hs : okS n s)  : CtrU l g yX7_readNumber cX7_readNumber 3 1 [.ref (ga g 77)] (rdM M s) (rdM M (pDig (sgC (M 62) n) s).2) := by
  refine ctrV_of (by decide +kernel) (Nat.le_of_ble_eq_true rfl) ?_
  intro pP eE RR sS mI aG bB mE cD C
  refine k_lo (lo' := [(0, .ref (ga g 77))]) rfl ?_
  have hn60 := hH.2.2.2.1
  have hp := hs.1
  have hz := hs.2
  refine k_iconst C 1 (v := 0) (by decide) dX7_readNumber_0 rfl ?_
  refine k_istore_n C 2 [(1, .int 0), (0, .ref (ga g 77))] rfl (by decide) rfl dX7_readNumber_1 rfl ?_
  refine k_iconst C 3 (v := 0) (by decide) dX7_readNumber_2 rfl ?_
  refine k_istore_n C 4 [(2, .int 0), (1, .int 0), (0, .ref (ga g 77))] rfl (by decide) rfl dX7_readNumber_3 rfl ?_
  refine k_sub [(0, .ref (ga g 77)), (1, .int 0), (2, .int 0)] [2, 1, 0] rfl ?_
  refine k_all (M' := rdM M (s.1, s.2)) (lo' := [(0, .ref (ga g 77)), (1, .int 0), (2, .int (nI 0))]) (st' := []) (by rfl) (by rfl) rfl ?_
  refine k_loop (σ := Nat × Nat × Int32) (fun (v : Nat × Nat × Int32) => match v with | (i, p, v) => (i ≤ 4) ∧ (p ≤ n) ∧ (pNum (sgC (M 62) n) 4 s.1 0 = pNum (sgC (M 62) n) (4 - i) p v)) (fun (v : Nat × Nat × Int32) => match v with | (i, p, v) => 4 - i) (fun (v : Nat × Nat × Int32) => match v with | (i, p, v) => rdM M (p, s.2)) (fun (v : Nat × Nat × Int32) => match v with | (i, p, v) => [(0, .ref (ga g 77)), (1, .int v), (2, .int (nI i))]) (0, s.1, 0) (show (0 ≤ 4) ∧ (s.1 ≤ n) ∧ (pNum (sgC (M 62) n) 4 s.1 0 = pNum (sgC (M 62) n) (4 - 0) s.1 0) from by exact ⟨by decide, hp, rfl⟩) ?_
  rintro ⟨i, p, v⟩ hI ih
  have hI : (i ≤ 4) ∧ (p ≤ n) ∧ (pNum (sgC (M 62) n) 4 s.1 0 = pNum (sgC (M 62) n) (4 - i) p v) := hI
  obtain ⟨hi, hpn, he⟩ := hI
  show KW pP l eE RR sS mI aG bB mE cD g 3 _ (rdM M (p, s.2)) 4 [(0, .ref (ga g 77)), (1, .int v), (2, .int (nI i))] []
  refine k_iload_n C 5 2 rfl rfl dX7_readNumber_4 rfl ?_
  refine k_iconst C 6 (v := 4) (by decide) dX7_readNumber_5 rfl ?_
  refine k_icmp_ge C 48 9 dX7_readNumber_6 (by decide) rfl (fun c6 => ?_) (fun d6 => ?_)
  · skip
    have c6 := (nI_leI (by omega) (by omega)).mp (show nI 4 ≤ nI i from c6)
    have hfin : pNum (sgC (M 62) n) 4 s.1 0 = (p, v) := by
      rw [he]
      rw [show 4 - i = 0 by omega]; rfl
    refine k_aload_n C 49 0 rfl rfl dX7_readNumber_48 rfl ?_
    refine k_get C 52 flX7_12 77 (by decide) (v := .ref (ga g 51)) (ce_77 g _) rfl dX7_readNumber_49 rfl ?_
    refine k_iload_n C 53 1 rfl rfl dX7_readNumber_52 rfl ?_
    refine k_callVU C 56 (As := [.int v]) (st := []) 51 (by decide) (ce_law g _ (show 4 < 5 by decide)) rfl rfl mwX7_51 vlX3_add (qDraftAdd l g M (p, s.2) (show okS n (p, s.2) from ⟨hpn, hs.2⟩).2 v) mlX3_add (by decide) (by decide) rfl rfl (Nat.le_of_ble_eq_true rfl) dX7_readNumber_53 rfl ?_
    refine k_vret C dX7_readNumber_56 ?_
    show _ = _
    unfold pDig; rw [hfin]
  · skip
    have d6 := mt (nI_leI (by omega) (by omega)).mpr (show ¬ (nI 4 ≤ nI i) from d6)
    refine k_aload_n C 10 0 rfl rfl dX7_readNumber_9 rfl ?_
    refine k_callVE C 13 (As := []) (st := []) 77 (by decide) (ce_77 g _) rfl rfl mwX7_43 vlX7_signHere (qX7_signHere l g M (p, s.2) hH (show okS n (p, s.2) from ⟨hpn, hs.2⟩)) mlX7_signHere (by decide) (by decide) rfl rfl (Nat.le_of_ble_eq_true rfl) dX7_readNumber_10 rfl ?_
    refine k_callSE C 16 (As := [.int (sgC (M 62) n (p, s.2).1)]) (st := []) mwX7_55 skX7_isDigit (qX7_isDigit l g (rdM M (p, s.2)) (sgC (M 62) n (p, s.2).1)) mlX7_isDigit (by decide) (by decide) rfl rfl (Nat.le_of_ble_eq_true rfl) dX7_readNumber_13 rfl ?_
    refine k_if_eqB C 48 19 dX7_readNumber_16 (by decide) rfl (fun c16 => ?_) (fun d16 => ?_)
    · skip
      have hfin : pNum (sgC (M 62) n) 4 s.1 0 = (p, v) := by
        rw [he]
        rw [show 4 - i = (4 - (i + 1)) + 1 by omega]; simp only [pNum]; rw [if_neg (by rw [c16]; decide)]
      refine k_aload_n C 49 0 rfl rfl dX7_readNumber_48 rfl ?_
      refine k_get C 52 flX7_12 77 (by decide) (v := .ref (ga g 51)) (ce_77 g _) rfl dX7_readNumber_49 rfl ?_
      refine k_iload_n C 53 1 rfl rfl dX7_readNumber_52 rfl ?_
      refine k_callVU C 56 (As := [.int v]) (st := []) 51 (by decide) (ce_law g _ (show 4 < 5 by decide)) rfl rfl mwX7_51 vlX3_add (qDraftAdd l g M (p, s.2) (show okS n (p, s.2) from ⟨hpn, hs.2⟩).2 v) mlX3_add (by decide) (by decide) rfl rfl (Nat.le_of_ble_eq_true rfl) dX7_readNumber_53 rfl ?_
      refine k_vret C dX7_readNumber_56 ?_
      show _ = _
      unfold pDig; rw [hfin]
    · skip
      refine k_bipush C 21 (v := 10) (by decide) dX7_readNumber_19 rfl ?_
      refine k_iload_n C 22 1 rfl rfl dX7_readNumber_21 rfl ?_
      refine k_imul C 23 dX7_readNumber_22 rfl ?_
      refine k_aload_n C 24 0 rfl rfl dX7_readNumber_23 rfl ?_
      refine k_callVE C 27 (As := []) (st := [.int (10 * v)]) 77 (by decide) (ce_77 g _) rfl rfl mwX7_43 vlX7_signHere (qX7_signHere l g M (p, s.2) hH (show okS n (p, s.2) from ⟨hpn, hs.2⟩)) mlX7_signHere (by decide) (by decide) rfl rfl (Nat.le_of_ble_eq_true rfl) dX7_readNumber_24 rfl ?_
      refine k_iadd C 28 dX7_readNumber_27 rfl ?_
      refine k_bipush C 30 (v := 48) (by decide) dX7_readNumber_28 rfl ?_
      refine k_isub C 31 dX7_readNumber_30 rfl ?_
      refine k_istore_n C 32 [(1, .int (((10 * v) + (sgC (M 62) n (p, s.2).1)) - 48)), (0, .ref (ga g 77)), (2, .int (nI i))] rfl (by decide) rfl dX7_readNumber_31 rfl ?_
      refine k_aload_n C 33 1 rfl rfl dX7_readNumber_32 rfl ?_
      refine k_dup C 34 rfl dX7_readNumber_33 rfl ?_
      refine k_get C 37 flX7_29 77 (by decide) (v := .int ((rdM M (p, s.2)) 77 1)) (ce_77 g _) rfl dX7_readNumber_34 rfl ?_
      refine k_teq (y := nI p) (rdM_p M (p, s.2)) ?_
      refine k_iconst C 38 (v := 1) (by decide) dX7_readNumber_37 rfl ?_
      refine k_iadd C 39 dX7_readNumber_38 rfl ?_
      refine k_teq (nI_add p 1) ?_
      refine k_put C 42 flX7_29 plX7 77 (by decide) (ce_77 g _) (ce_77 g _) (Nat.le_of_ble_eq_true rfl) rfl rfl rfl dX7_readNumber_39 rfl ?_
      refine k_iinc C 45 (nI (i + 1)) 2 [(2, .int (nI (i + 1))), (1, .int (((10 * v) + (sgC (M 62) n (p, s.2).1)) - 48)), (0, .ref (ga g 77))] rfl (iinc_p i) (by decide) rfl dX7_readNumber_42 rfl ?_
      refine k_goto C 4 dX7_readNumber_45 (by decide) ?_
      refine k_mem (M' := rdM M (p + 1, s.2)) (rdM_num M (p, s.2) (p + 1)) ?_
      have hpl : p < n := by
        rcases Nat.lt_or_ge p n with q | q
        · exact q
        · rw [(sgC_end (M 62) n p q).1] at d16; cases d16
      refine k_sub [(0, .ref (ga g 77)), (1, .int (((10 * v) + (sgC (M 62) n (p, s.2).1)) - 48)), (2, .int (nI (i + 1)))] [2, 1, 0] rfl ?_
      refine k_all (M' := rdM M ((p + 1), s.2)) (lo' := [(0, .ref (ga g 77)), (1, .int (((10 * v) + (sgC (M 62) n (p, s.2).1)) - 48)), (2, .int (nI (i + 1)))]) (st' := []) (by rfl) (by rfl) rfl ?_
      exact ih (i + 1, p + 1, ((10 * v) + (sgC (M 62) n (p, s.2).1)) - 48) (show ((i + 1) ≤ 4) ∧ ((p + 1) ≤ n) ∧ (pNum (sgC (M 62) n) 4 s.1 0 = pNum (sgC (M 62) n) (4 - (i + 1)) (p + 1) (((10 * v) + (sgC (M 62) n (p, s.2).1)) - 48)) from by exact ⟨by omega, by omega, by rw [he, show 4 - i = (4 - (i + 1)) + 1 by omega]; simp only [pNum]; rw [if_pos d16]⟩) (by show 4 - (i + 1) < 4 - i; omega)
set_option maxHeartbeats 4000000 in
set_option maxRecDepth 20000 in
theorem qX7_readName (l : Launch) (g : GT) (M : Mem) {n u : Nat} (s : PS) (hH : rdH M n u) (hs : okS n s) (x : Int32) : CtrE l g yX7_readName cX7_readName 3 (some .boolean) 1 [.ref (ga g 77), .int x] (rdM M s) (b2i (pName u x).isSome) (rdM M (nmS s (pName u x))) := by
  refine ctrI_of (by decide +kernel) (Nat.le_of_ble_eq_true rfl) ?_
  intro pP eE RR sS mI aG bB mE cD C
  refine k_lo (lo' := [(0, .ref (ga g 77)), (1, .int x)]) rfl ?_
  have hn60 := hH.2.2.2.1
  have hp := hs.1
  have hz := hs.2
  refine k_iconst C 1 (v := 0) (by decide) dX7_readName_0 rfl ?_
  refine k_istore_n C 2 [(2, .int 0), (0, .ref (ga g 77)), (1, .int x)] rfl (by decide) rfl dX7_readName_1 rfl ?_
  rcases (show u = 0 ∨ u = 1 by have := hH.2.2.2.2; omega) with hu | hu
  · skip
    subst hu
    refine k_iload_n C 3 0 rfl rfl dX7_readName_2 rfl ?_
    refine k_iconst C 4 (v := 3) (by decide) dX7_readName_3 rfl ?_
    refine k_icmp_ge C 51 7 dX7_readName_4 (by decide) rfl (fun c4 => ?_) (fun d4 => ?_)
    · skip
      exact absurd c4 (by decide)
    · skip
      refine k_nms C 10 sfX7_70 dX7_readName_7 rfl ?_
      refine k_iconst C 11 (v := 3) (by decide) dX7_readName_10 rfl ?_
      refine k_aload_n C 12 1 rfl rfl dX7_readName_11 rfl ?_
      refine k_get C 15 flX7_26 77 (by decide) (v := .int ((rdM M s) 77 4)) (ce_77 g _) rfl dX7_readName_12 rfl ?_
      refine k_teq (y := 0) ((rdM_f M s (by decide)).trans hH.2.2.1) ?_
      refine k_imul C 16 dX7_readName_15 rfl ?_
      refine k_teq (show _ = (0 : Int32) by decide) ?_
      refine k_iload_n C 17 0 rfl rfl dX7_readName_16 rfl ?_
      refine k_iadd C 18 dX7_readName_17 rfl ?_
      refine k_teq (show _ = (0 : Int32) by decide) ?_
      refine k_nmsl C 19 0 rfl (by omega) (v := 97) rfl dX7_readName_18 rfl ?_
      refine k_iload_n C 20 2 rfl rfl dX7_readName_19 rfl ?_
      refine k_icmp_ne C 45 23 dX7_readName_20 (by decide) rfl (fun c20 => ?_) (fun d20 => ?_)
      · skip
        refine k_iinc C 48 (1) 0 [(2, .int 1), (0, .ref (ga g 77)), (1, .int x)] rfl (by decide) (by decide) rfl dX7_readName_45 rfl ?_
        refine k_goto C 2 dX7_readName_48 (by decide) ?_
        refine k_iload_n C 3 0 rfl rfl dX7_readName_2 rfl ?_
        refine k_iconst C 4 (v := 3) (by decide) dX7_readName_3 rfl ?_
        refine k_icmp_ge C 51 7 dX7_readName_4 (by decide) rfl (fun c4x => ?_) (fun d4x => ?_)
        · skip
          exact absurd c4x (by decide)
        · skip
          refine k_nms C 10 sfX7_70 dX7_readName_7 rfl ?_
          refine k_iconst C 11 (v := 3) (by decide) dX7_readName_10 rfl ?_
          refine k_aload_n C 12 1 rfl rfl dX7_readName_11 rfl ?_
          refine k_get C 15 flX7_26 77 (by decide) (v := .int ((rdM M s) 77 4)) (ce_77 g _) rfl dX7_readName_12 rfl ?_
          refine k_teq (y := 0) ((rdM_f M s (by decide)).trans hH.2.2.1) ?_
          refine k_imul C 16 dX7_readName_15 rfl ?_
          refine k_teq (show _ = (0 : Int32) by decide) ?_
          refine k_iload_n C 17 0 rfl rfl dX7_readName_16 rfl ?_
          refine k_iadd C 18 dX7_readName_17 rfl ?_
          refine k_teq (show _ = (1 : Int32) by decide) ?_
          refine k_nmsl C 19 1 rfl (by omega) (v := 98) rfl dX7_readName_18 rfl ?_
          refine k_iload_n C 20 2 rfl rfl dX7_readName_19 rfl ?_
          refine k_icmp_ne C 45 23 dX7_readName_20 (by decide) rfl (fun c20x => ?_) (fun d20x => ?_)
          · skip
            refine k_iinc C 48 (2) 0 [(2, .int 2), (0, .ref (ga g 77)), (1, .int x)] rfl (by decide) (by decide) rfl dX7_readName_45 rfl ?_
            refine k_goto C 2 dX7_readName_48 (by decide) ?_
            refine k_iload_n C 3 0 rfl rfl dX7_readName_2 rfl ?_
            refine k_iconst C 4 (v := 3) (by decide) dX7_readName_3 rfl ?_
            refine k_icmp_ge C 51 7 dX7_readName_4 (by decide) rfl (fun c4xx => ?_) (fun d4xx => ?_)
            · skip
              exact absurd c4xx (by decide)
            · skip
              refine k_nms C 10 sfX7_70 dX7_readName_7 rfl ?_
              refine k_iconst C 11 (v := 3) (by decide) dX7_readName_10 rfl ?_
              refine k_aload_n C 12 1 rfl rfl dX7_readName_11 rfl ?_
              refine k_get C 15 flX7_26 77 (by decide) (v := .int ((rdM M s) 77 4)) (ce_77 g _) rfl dX7_readName_12 rfl ?_
              refine k_teq (y := 0) ((rdM_f M s (by decide)).trans hH.2.2.1) ?_
              refine k_imul C 16 dX7_readName_15 rfl ?_
              refine k_teq (show _ = (0 : Int32) by decide) ?_
              refine k_iload_n C 17 0 rfl rfl dX7_readName_16 rfl ?_
              refine k_iadd C 18 dX7_readName_17 rfl ?_
              refine k_teq (show _ = (2 : Int32) by decide) ?_
              refine k_nmsl C 19 2 rfl (by omega) (v := 107) rfl dX7_readName_18 rfl ?_
              refine k_iload_n C 20 2 rfl rfl dX7_readName_19 rfl ?_
              refine k_icmp_ne C 45 23 dX7_readName_20 (by decide) rfl (fun c20xx => ?_) (fun d20xx => ?_)
              · skip
                refine k_iinc C 48 (3) 0 [(2, .int 3), (0, .ref (ga g 77)), (1, .int x)] rfl (by decide) (by decide) rfl dX7_readName_45 rfl ?_
                refine k_goto C 2 dX7_readName_48 (by decide) ?_
                refine k_iload_n C 3 0 rfl rfl dX7_readName_2 rfl ?_
                refine k_iconst C 4 (v := 3) (by decide) dX7_readName_3 rfl ?_
                refine k_icmp_ge C 51 7 dX7_readName_4 (by decide) rfl (fun c4xxx => ?_) (fun d4xxx => ?_)
                · skip
                  refine k_iconst C 52 (v := 0) (by decide) dX7_readName_51 rfl ?_
                  refine k_ret C rfl dX7_readName_52 ?_
                  exact ⟨by simp [pName, nmc, d4, c20, d4x, c20x, d4xx, c20xx, c4xxx, b2i], by simp [pName, nmc, nmS, d4, c20, d4x, c20x, d4xx, c20xx, c4xxx]⟩
                · skip
                  exact absurd d4xxx (by decide)
              · skip
                refine k_aload_n C 24 1 rfl rfl dX7_readName_23 rfl ?_
                refine k_get C 27 flX7_12 77 (by decide) (v := .ref (ga g 51)) (ce_77 g _) rfl dX7_readName_24 rfl ?_
                refine k_iconst C 28 (v := (-1)) (by decide) dX7_readName_27 rfl ?_
                refine k_iload_n C 29 0 rfl rfl dX7_readName_28 rfl ?_
                refine k_isub C 30 dX7_readName_29 rfl ?_
                refine k_callVU C 33 (As := [.int ((-1) - 2)]) (st := []) 51 (by decide) (ce_law g _ (show 4 < 5 by decide)) rfl rfl mwX7_51 vlX3_add (qDraftAdd l g M s hs.2 ((-1) - 2)) mlX3_add (by decide) (by decide) rfl rfl (Nat.le_of_ble_eq_true rfl) dX7_readName_30 rfl ?_
                refine k_aload_n C 34 1 rfl rfl dX7_readName_33 rfl ?_
                refine k_dup C 35 rfl dX7_readName_34 rfl ?_
                refine k_get C 38 flX7_29 77 (by decide) (v := .int ((rdM M (psAdd s ((-1) - 2))) 77 1)) (ce_77 g _) rfl dX7_readName_35 rfl ?_
                refine k_teq (y := nI s.1) (by rw [rdM_p, psAdd_1]) ?_
                refine k_iconst C 39 (v := 1) (by decide) dX7_readName_38 rfl ?_
                refine k_iadd C 40 dX7_readName_39 rfl ?_
                refine k_teq (nI_add s.1 1) ?_
                refine k_put C 43 flX7_29 plX7 77 (by decide) (ce_77 g _) (ce_77 g _) (Nat.le_of_ble_eq_true rfl) rfl rfl rfl dX7_readName_40 rfl ?_
                refine k_iconst C 44 (v := 1) (by decide) dX7_readName_43 rfl ?_
                refine k_ret C rfl dX7_readName_44 ?_
                refine ⟨by simp [pName, nmc, d4, c20, d4x, c20x, d4xx, d20xx, b2i], ?_⟩
                have e := rdM_go M (psAdd s ((-1) - 2))
                rw [psAdd_1] at e
                rw [e]
                simp [pName, nmc, nmS, d4, c20, d4x, c20x, d4xx, d20xx]
                <;> rfl
          · skip
            refine k_aload_n C 24 1 rfl rfl dX7_readName_23 rfl ?_
            refine k_get C 27 flX7_12 77 (by decide) (v := .ref (ga g 51)) (ce_77 g _) rfl dX7_readName_24 rfl ?_
            refine k_iconst C 28 (v := (-1)) (by decide) dX7_readName_27 rfl ?_
            refine k_iload_n C 29 0 rfl rfl dX7_readName_28 rfl ?_
            refine k_isub C 30 dX7_readName_29 rfl ?_
            refine k_callVU C 33 (As := [.int ((-1) - 1)]) (st := []) 51 (by decide) (ce_law g _ (show 4 < 5 by decide)) rfl rfl mwX7_51 vlX3_add (qDraftAdd l g M s hs.2 ((-1) - 1)) mlX3_add (by decide) (by decide) rfl rfl (Nat.le_of_ble_eq_true rfl) dX7_readName_30 rfl ?_
            refine k_aload_n C 34 1 rfl rfl dX7_readName_33 rfl ?_
            refine k_dup C 35 rfl dX7_readName_34 rfl ?_
            refine k_get C 38 flX7_29 77 (by decide) (v := .int ((rdM M (psAdd s ((-1) - 1))) 77 1)) (ce_77 g _) rfl dX7_readName_35 rfl ?_
            refine k_teq (y := nI s.1) (by rw [rdM_p, psAdd_1]) ?_
            refine k_iconst C 39 (v := 1) (by decide) dX7_readName_38 rfl ?_
            refine k_iadd C 40 dX7_readName_39 rfl ?_
            refine k_teq (nI_add s.1 1) ?_
            refine k_put C 43 flX7_29 plX7 77 (by decide) (ce_77 g _) (ce_77 g _) (Nat.le_of_ble_eq_true rfl) rfl rfl rfl dX7_readName_40 rfl ?_
            refine k_iconst C 44 (v := 1) (by decide) dX7_readName_43 rfl ?_
            refine k_ret C rfl dX7_readName_44 ?_
            refine ⟨by simp [pName, nmc, d4, c20, d4x, d20x, b2i], ?_⟩
            have e := rdM_go M (psAdd s ((-1) - 1))
            rw [psAdd_1] at e
            rw [e]
            simp [pName, nmc, nmS, d4, c20, d4x, d20x]
            <;> rfl
      · skip
        refine k_aload_n C 24 1 rfl rfl dX7_readName_23 rfl ?_
        refine k_get C 27 flX7_12 77 (by decide) (v := .ref (ga g 51)) (ce_77 g _) rfl dX7_readName_24 rfl ?_
        refine k_iconst C 28 (v := (-1)) (by decide) dX7_readName_27 rfl ?_
        refine k_iload_n C 29 0 rfl rfl dX7_readName_28 rfl ?_
        refine k_isub C 30 dX7_readName_29 rfl ?_
        refine k_callVU C 33 (As := [.int ((-1) - 0)]) (st := []) 51 (by decide) (ce_law g _ (show 4 < 5 by decide)) rfl rfl mwX7_51 vlX3_add (qDraftAdd l g M s hs.2 ((-1) - 0)) mlX3_add (by decide) (by decide) rfl rfl (Nat.le_of_ble_eq_true rfl) dX7_readName_30 rfl ?_
        refine k_aload_n C 34 1 rfl rfl dX7_readName_33 rfl ?_
        refine k_dup C 35 rfl dX7_readName_34 rfl ?_
        refine k_get C 38 flX7_29 77 (by decide) (v := .int ((rdM M (psAdd s ((-1) - 0))) 77 1)) (ce_77 g _) rfl dX7_readName_35 rfl ?_
        refine k_teq (y := nI s.1) (by rw [rdM_p, psAdd_1]) ?_
        refine k_iconst C 39 (v := 1) (by decide) dX7_readName_38 rfl ?_
        refine k_iadd C 40 dX7_readName_39 rfl ?_
        refine k_teq (nI_add s.1 1) ?_
        refine k_put C 43 flX7_29 plX7 77 (by decide) (ce_77 g _) (ce_77 g _) (Nat.le_of_ble_eq_true rfl) rfl rfl rfl dX7_readName_40 rfl ?_
        refine k_iconst C 44 (v := 1) (by decide) dX7_readName_43 rfl ?_
        refine k_ret C rfl dX7_readName_44 ?_
        refine ⟨by simp [pName, nmc, d4, d20, b2i], ?_⟩
        have e := rdM_go M (psAdd s ((-1) - 0))
        rw [psAdd_1] at e
        rw [e]
        simp [pName, nmc, nmS, d4, d20]
        <;> rfl
  · skip
    subst hu
    refine k_iload_n C 3 0 rfl rfl dX7_readName_2 rfl ?_
    refine k_iconst C 4 (v := 3) (by decide) dX7_readName_3 rfl ?_
    refine k_icmp_ge C 51 7 dX7_readName_4 (by decide) rfl (fun c4 => ?_) (fun d4 => ?_)
    · skip
      exact absurd c4 (by decide)
    · skip
      refine k_nms C 10 sfX7_70 dX7_readName_7 rfl ?_
      refine k_iconst C 11 (v := 3) (by decide) dX7_readName_10 rfl ?_
      refine k_aload_n C 12 1 rfl rfl dX7_readName_11 rfl ?_
      refine k_get C 15 flX7_26 77 (by decide) (v := .int ((rdM M s) 77 4)) (ce_77 g _) rfl dX7_readName_12 rfl ?_
      refine k_teq (y := 1) ((rdM_f M s (by decide)).trans hH.2.2.1) ?_
      refine k_imul C 16 dX7_readName_15 rfl ?_
      refine k_teq (show _ = (3 : Int32) by decide) ?_
      refine k_iload_n C 17 0 rfl rfl dX7_readName_16 rfl ?_
      refine k_iadd C 18 dX7_readName_17 rfl ?_
      refine k_teq (show _ = (3 : Int32) by decide) ?_
      refine k_nmsl C 19 3 rfl (by omega) (v := 108) rfl dX7_readName_18 rfl ?_
      refine k_iload_n C 20 2 rfl rfl dX7_readName_19 rfl ?_
      refine k_icmp_ne C 45 23 dX7_readName_20 (by decide) rfl (fun c20 => ?_) (fun d20 => ?_)
      · skip
        refine k_iinc C 48 (1) 0 [(2, .int 1), (0, .ref (ga g 77)), (1, .int x)] rfl (by decide) (by decide) rfl dX7_readName_45 rfl ?_
        refine k_goto C 2 dX7_readName_48 (by decide) ?_
        refine k_iload_n C 3 0 rfl rfl dX7_readName_2 rfl ?_
        refine k_iconst C 4 (v := 3) (by decide) dX7_readName_3 rfl ?_
        refine k_icmp_ge C 51 7 dX7_readName_4 (by decide) rfl (fun c4x => ?_) (fun d4x => ?_)
        · skip
          exact absurd c4x (by decide)
        · skip
          refine k_nms C 10 sfX7_70 dX7_readName_7 rfl ?_
          refine k_iconst C 11 (v := 3) (by decide) dX7_readName_10 rfl ?_
          refine k_aload_n C 12 1 rfl rfl dX7_readName_11 rfl ?_
          refine k_get C 15 flX7_26 77 (by decide) (v := .int ((rdM M s) 77 4)) (ce_77 g _) rfl dX7_readName_12 rfl ?_
          refine k_teq (y := 1) ((rdM_f M s (by decide)).trans hH.2.2.1) ?_
          refine k_imul C 16 dX7_readName_15 rfl ?_
          refine k_teq (show _ = (3 : Int32) by decide) ?_
          refine k_iload_n C 17 0 rfl rfl dX7_readName_16 rfl ?_
          refine k_iadd C 18 dX7_readName_17 rfl ?_
          refine k_teq (show _ = (4 : Int32) by decide) ?_
          refine k_nmsl C 19 4 rfl (by omega) (v := 99) rfl dX7_readName_18 rfl ?_
          refine k_iload_n C 20 2 rfl rfl dX7_readName_19 rfl ?_
          refine k_icmp_ne C 45 23 dX7_readName_20 (by decide) rfl (fun c20x => ?_) (fun d20x => ?_)
          · skip
            refine k_iinc C 48 (2) 0 [(2, .int 2), (0, .ref (ga g 77)), (1, .int x)] rfl (by decide) (by decide) rfl dX7_readName_45 rfl ?_
            refine k_goto C 2 dX7_readName_48 (by decide) ?_
            refine k_iload_n C 3 0 rfl rfl dX7_readName_2 rfl ?_
            refine k_iconst C 4 (v := 3) (by decide) dX7_readName_3 rfl ?_
            refine k_icmp_ge C 51 7 dX7_readName_4 (by decide) rfl (fun c4xx => ?_) (fun d4xx => ?_)
            · skip
              exact absurd c4xx (by decide)
            · skip
              refine k_nms C 10 sfX7_70 dX7_readName_7 rfl ?_
              refine k_iconst C 11 (v := 3) (by decide) dX7_readName_10 rfl ?_
              refine k_aload_n C 12 1 rfl rfl dX7_readName_11 rfl ?_
              refine k_get C 15 flX7_26 77 (by decide) (v := .int ((rdM M s) 77 4)) (ce_77 g _) rfl dX7_readName_12 rfl ?_
              refine k_teq (y := 1) ((rdM_f M s (by decide)).trans hH.2.2.1) ?_
              refine k_imul C 16 dX7_readName_15 rfl ?_
              refine k_teq (show _ = (3 : Int32) by decide) ?_
              refine k_iload_n C 17 0 rfl rfl dX7_readName_16 rfl ?_
              refine k_iadd C 18 dX7_readName_17 rfl ?_
              refine k_teq (show _ = (5 : Int32) by decide) ?_
              refine k_nmsl C 19 5 rfl (by omega) (v := 100) rfl dX7_readName_18 rfl ?_
              refine k_iload_n C 20 2 rfl rfl dX7_readName_19 rfl ?_
              refine k_icmp_ne C 45 23 dX7_readName_20 (by decide) rfl (fun c20xx => ?_) (fun d20xx => ?_)
              · skip
                refine k_iinc C 48 (3) 0 [(2, .int 3), (0, .ref (ga g 77)), (1, .int x)] rfl (by decide) (by decide) rfl dX7_readName_45 rfl ?_
                refine k_goto C 2 dX7_readName_48 (by decide) ?_
                refine k_iload_n C 3 0 rfl rfl dX7_readName_2 rfl ?_
                refine k_iconst C 4 (v := 3) (by decide) dX7_readName_3 rfl ?_
                refine k_icmp_ge C 51 7 dX7_readName_4 (by decide) rfl (fun c4xxx => ?_) (fun d4xxx => ?_)
                · skip
                  refine k_iconst C 52 (v := 0) (by decide) dX7_readName_51 rfl ?_
                  refine k_ret C rfl dX7_readName_52 ?_
                  exact ⟨by simp [pName, nmc, d4, c20, d4x, c20x, d4xx, c20xx, c4xxx, b2i], by simp [pName, nmc, nmS, d4, c20, d4x, c20x, d4xx, c20xx, c4xxx]⟩
                · skip
                  exact absurd d4xxx (by decide)
              · skip
                refine k_aload_n C 24 1 rfl rfl dX7_readName_23 rfl ?_
                refine k_get C 27 flX7_12 77 (by decide) (v := .ref (ga g 51)) (ce_77 g _) rfl dX7_readName_24 rfl ?_
                refine k_iconst C 28 (v := (-1)) (by decide) dX7_readName_27 rfl ?_
                refine k_iload_n C 29 0 rfl rfl dX7_readName_28 rfl ?_
                refine k_isub C 30 dX7_readName_29 rfl ?_
                refine k_callVU C 33 (As := [.int ((-1) - 2)]) (st := []) 51 (by decide) (ce_law g _ (show 4 < 5 by decide)) rfl rfl mwX7_51 vlX3_add (qDraftAdd l g M s hs.2 ((-1) - 2)) mlX3_add (by decide) (by decide) rfl rfl (Nat.le_of_ble_eq_true rfl) dX7_readName_30 rfl ?_
                refine k_aload_n C 34 1 rfl rfl dX7_readName_33 rfl ?_
                refine k_dup C 35 rfl dX7_readName_34 rfl ?_
                refine k_get C 38 flX7_29 77 (by decide) (v := .int ((rdM M (psAdd s ((-1) - 2))) 77 1)) (ce_77 g _) rfl dX7_readName_35 rfl ?_
                refine k_teq (y := nI s.1) (by rw [rdM_p, psAdd_1]) ?_
                refine k_iconst C 39 (v := 1) (by decide) dX7_readName_38 rfl ?_
                refine k_iadd C 40 dX7_readName_39 rfl ?_
                refine k_teq (nI_add s.1 1) ?_
                refine k_put C 43 flX7_29 plX7 77 (by decide) (ce_77 g _) (ce_77 g _) (Nat.le_of_ble_eq_true rfl) rfl rfl rfl dX7_readName_40 rfl ?_
                refine k_iconst C 44 (v := 1) (by decide) dX7_readName_43 rfl ?_
                refine k_ret C rfl dX7_readName_44 ?_
                refine ⟨by simp [pName, nmc, d4, c20, d4x, c20x, d4xx, d20xx, b2i], ?_⟩
                have e := rdM_go M (psAdd s ((-1) - 2))
                rw [psAdd_1] at e
                rw [e]
                simp [pName, nmc, nmS, d4, c20, d4x, c20x, d4xx, d20xx]
                <;> rfl
          · skip
            refine k_aload_n C 24 1 rfl rfl dX7_readName_23 rfl ?_
            refine k_get C 27 flX7_12 77 (by decide) (v := .ref (ga g 51)) (ce_77 g _) rfl dX7_readName_24 rfl ?_
            refine k_iconst C 28 (v := (-1)) (by decide) dX7_readName_27 rfl ?_
            refine k_iload_n C 29 0 rfl rfl dX7_readName_28 rfl ?_
            refine k_isub C 30 dX7_readName_29 rfl ?_
            refine k_callVU C 33 (As := [.int ((-1) - 1)]) (st := []) 51 (by decide) (ce_law g _ (show 4 < 5 by decide)) rfl rfl mwX7_51 vlX3_add (qDraftAdd l g M s hs.2 ((-1) - 1)) mlX3_add (by decide) (by decide) rfl rfl (Nat.le_of_ble_eq_true rfl) dX7_readName_30 rfl ?_
            refine k_aload_n C 34 1 rfl rfl dX7_readName_33 rfl ?_
            refine k_dup C 35 rfl dX7_readName_34 rfl ?_
            refine k_get C 38 flX7_29 77 (by decide) (v := .int ((rdM M (psAdd s ((-1) - 1))) 77 1)) (ce_77 g _) rfl dX7_readName_35 rfl ?_
            refine k_teq (y := nI s.1) (by rw [rdM_p, psAdd_1]) ?_
            refine k_iconst C 39 (v := 1) (by decide) dX7_readName_38 rfl ?_
            refine k_iadd C 40 dX7_readName_39 rfl ?_
            refine k_teq (nI_add s.1 1) ?_
            refine k_put C 43 flX7_29 plX7 77 (by decide) (ce_77 g _) (ce_77 g _) (Nat.le_of_ble_eq_true rfl) rfl rfl rfl dX7_readName_40 rfl ?_
            refine k_iconst C 44 (v := 1) (by decide) dX7_readName_43 rfl ?_
            refine k_ret C rfl dX7_readName_44 ?_
            refine ⟨by simp [pName, nmc, d4, c20, d4x, d20x, b2i], ?_⟩
            have e := rdM_go M (psAdd s ((-1) - 1))
            rw [psAdd_1] at e
            rw [e]
            simp [pName, nmc, nmS, d4, c20, d4x, d20x]
            <;> rfl
      · skip
        refine k_aload_n C 24 1 rfl rfl dX7_readName_23 rfl ?_
        refine k_get C 27 flX7_12 77 (by decide) (v := .ref (ga g 51)) (ce_77 g _) rfl dX7_readName_24 rfl ?_
        refine k_iconst C 28 (v := (-1)) (by decide) dX7_readName_27 rfl ?_
        refine k_iload_n C 29 0 rfl rfl dX7_readName_28 rfl ?_
        refine k_isub C 30 dX7_readName_29 rfl ?_
        refine k_callVU C 33 (As := [.int ((-1) - 0)]) (st := []) 51 (by decide) (ce_law g _ (show 4 < 5 by decide)) rfl rfl mwX7_51 vlX3_add (qDraftAdd l g M s hs.2 ((-1) - 0)) mlX3_add (by decide) (by decide) rfl rfl (Nat.le_of_ble_eq_true rfl) dX7_readName_30 rfl ?_
        refine k_aload_n C 34 1 rfl rfl dX7_readName_33 rfl ?_
        refine k_dup C 35 rfl dX7_readName_34 rfl ?_
        refine k_get C 38 flX7_29 77 (by decide) (v := .int ((rdM M (psAdd s ((-1) - 0))) 77 1)) (ce_77 g _) rfl dX7_readName_35 rfl ?_
        refine k_teq (y := nI s.1) (by rw [rdM_p, psAdd_1]) ?_
        refine k_iconst C 39 (v := 1) (by decide) dX7_readName_38 rfl ?_
        refine k_iadd C 40 dX7_readName_39 rfl ?_
        refine k_teq (nI_add s.1 1) ?_
        refine k_put C 43 flX7_29 plX7 77 (by decide) (ce_77 g _) (ce_77 g _) (Nat.le_of_ble_eq_true rfl) rfl rfl rfl dX7_readName_40 rfl ?_
        refine k_iconst C 44 (v := 1) (by decide) dX7_readName_43 rfl ?_
        refine k_ret C rfl dX7_readName_44 ?_
        refine ⟨by simp [pName, nmc, d4, d20, b2i], ?_⟩
        have e := rdM_go M (psAdd s ((-1) - 0))
        rw [psAdd_1] at e
        rw [e]
        simp [pName, nmc, nmS, d4, d20]
        <;> rfl
set_option maxHeartbeats 4000000 in
set_option maxRecDepth 20000 in
theorem qX7_readNegated (l : Launch) (g : GT) (od : Nat) (h5 : od < 5) (hS : HS l g od) (M : Mem) {n u : Nat} (s : PS) (hH : rdH M n u) (hs : okS n s)  : CtrE l g yX7_readNegated cX7_readNegated 2 (some .boolean) (8 * od + 4) [.ref (ga g 77), .int (nI (5 - od))] (rdM M s) (b2i (pSg (sgC (M 62) n) u od s).1) (rdM M (if (pSg (sgC (M 62) n) u od s).1 then psAdd (pSg (sgC (M 62) n) u od s).2 (-33) else (pSg (sgC (M 62) n) u od s).2)) := by
  refine ctrI_of (by decide +kernel) (Nat.le_of_ble_eq_true rfl) ?_
  intro pP eE RR sS mI aG bB mE cD C
  refine k_lo (lo' := [(0, .ref (ga g 77)), (1, .int (nI (5 - od)))]) rfl ?_
  have hn60 := hH.2.2.2.1
  have hp := hs.1
  have hz := hs.2
  refine k_aload_n C 1 0 rfl rfl dX7_readNegated_0 rfl ?_
  refine k_iload_n C 2 1 rfl rfl dX7_readNegated_1 rfl ?_
  refine k_callVE C 5 (As := [.int (nI (5 - od))]) (st := []) 77 (by decide) (ce_77 g _) rfl rfl mwX7_39 vlX7_readSingle (hS M n u s hH hs) mlX7_readSingle (by omega) (by decide) rfl rfl (Nat.le_of_ble_eq_true rfl) dX7_readNegated_2 rfl ?_
  refine k_if_neB C 10 8 dX7_readNegated_5 (by decide) rfl (fun c5 => ?_) (fun d5 => ?_)
  · skip
    refine k_aload_n C 11 0 rfl rfl dX7_readNegated_10 rfl ?_
    refine k_get C 14 flX7_12 77 (by decide) (v := .ref (ga g 51)) (ce_77 g _) rfl dX7_readNegated_11 rfl ?_
    refine k_bipush C 16 (v := (-33)) (by decide) dX7_readNegated_14 rfl ?_
    refine k_callVU C 19 (As := [.int (-33)]) (st := []) 51 (by decide) (ce_law g _ (show 4 < 5 by decide)) rfl rfl mwX7_51 vlX3_add (qDraftAdd l g M (pSg (sgC (M 62) n) u od s).2 (pSg_ok (sgC_end _ _) hH.2.2.2.2 od s hs).2 (-33)) mlX3_add (by omega) (by decide) rfl rfl (Nat.le_of_ble_eq_true rfl) dX7_readNegated_16 rfl ?_
    refine k_iconst C 20 (v := 1) (by decide) dX7_readNegated_19 rfl ?_
    refine k_ret C rfl dX7_readNegated_20 ?_
    exact ⟨by rw [c5]; rfl, by rw [if_pos c5]⟩
  · skip
    refine k_iconst C 9 (v := 0) (by decide) dX7_readNegated_8 rfl ?_
    refine k_ret C rfl dX7_readNegated_9 ?_
    exact ⟨by rw [d5]; rfl, by rw [if_neg (by rw [d5]; decide)]⟩
set_option maxHeartbeats 4000000 in
set_option maxRecDepth 20000 in
theorem qX7_readBracketed (l : Launch) (g : GT) (od : Nat) (h5 : od < 5) (hJ : HJ l g od 5) (M : Mem) {n u : Nat} (s : PS) (hH : rdH M n u) (hs : okS n s)  : CtrE l g yX7_readBracketed cX7_readBracketed 2 (some .boolean) (8 * od + 10) [.ref (ga g 77), .int (nI (5 - od))] (rdM M s) (b2i (decide ((pJd (sgC (M 62) n) (pSg (sgC (M 62) n) u od) 5 s).1 = true ∧ (sgC (M 62) n) (pJd (sgC (M 62) n) (pSg (sgC (M 62) n) u od) 5 s).2.1 = 41))) (rdM M (if (pJd (sgC (M 62) n) (pSg (sgC (M 62) n) u od) 5 s).1 = true ∧ (sgC (M 62) n) (pJd (sgC (M 62) n) (pSg (sgC (M 62) n) u od) 5 s).2.1 = 41 then psGo (pJd (sgC (M 62) n) (pSg (sgC (M 62) n) u od) 5 s).2 else (pJd (sgC (M 62) n) (pSg (sgC (M 62) n) u od) 5 s).2)) := by
  refine ctrI_of (by decide +kernel) (Nat.le_of_ble_eq_true rfl) ?_
  intro pP eE RR sS mI aG bB mE cD C
  refine k_lo (lo' := [(0, .ref (ga g 77)), (1, .int (nI (5 - od)))]) rfl ?_
  have hn60 := hH.2.2.2.1
  have hp := hs.1
  have hz := hs.2
  refine k_aload_n C 1 0 rfl rfl dX7_readBracketed_0 rfl ?_
  refine k_iconst C 2 (v := 0) (by decide) dX7_readBracketed_1 rfl ?_
  refine k_iload_n C 3 1 rfl rfl dX7_readBracketed_2 rfl ?_
  refine k_callVE C 6 (As := [.int 0, .int (nI (5 - od))]) (st := []) 77 (by decide) (ce_77 g _) rfl rfl mwX7_35 vlX7_readJoined (hJ M n u s hH hs) mlX7_readJoined (by omega) (by decide) rfl rfl (Nat.le_of_ble_eq_true rfl) dX7_readBracketed_3 rfl ?_
  refine k_if_eqB C 18 9 dX7_readBracketed_6 (by decide) rfl (fun c6 => ?_) (fun d6 => ?_)
  · skip
    refine k_iconst C 19 (v := 0) (by decide) dX7_readBracketed_18 rfl ?_
    refine k_ret C rfl dX7_readBracketed_19 ?_
    exact ⟨b2i_neg (decide_eq_false (fun q => by rw [c6] at q; exact absurd q.1 (by decide))), by rw [if_neg (fun q => by rw [c6] at q; exact absurd q.1 (by decide))]⟩
  · skip
    refine k_aload_n C 10 0 rfl rfl dX7_readBracketed_9 rfl ?_
    refine k_callVE C 13 (As := []) (st := []) 77 (by decide) (ce_77 g _) rfl rfl mwX7_43 vlX7_signHere (qX7_signHere l g M (pJd (sgC (M 62) n) (pSg (sgC (M 62) n) u od) 5 s).2 hH (pJd_ok (sgC_end _ _) (pSg_ok (sgC_end _ _) hH.2.2.2.2 od) 5 (Nat.le_refl _) s hs)) mlX7_signHere (by omega) (by decide) rfl rfl (Nat.le_of_ble_eq_true rfl) dX7_readBracketed_10 rfl ?_
    refine k_bipush C 15 (v := 41) (by decide) dX7_readBracketed_13 rfl ?_
    refine k_icmp_eq C 20 18 dX7_readBracketed_15 (by decide) rfl (fun c15 => ?_) (fun d15 => ?_)
    · skip
      refine k_aload_n C 21 0 rfl rfl dX7_readBracketed_20 rfl ?_
      refine k_dup C 22 rfl dX7_readBracketed_21 rfl ?_
      refine k_get C 25 flX7_29 77 (by decide) (v := .int ((rdM M (pJd (sgC (M 62) n) (pSg (sgC (M 62) n) u od) 5 s).2) 77 1)) (ce_77 g _) rfl dX7_readBracketed_22 rfl ?_
      refine k_teq (y := nI ((pJd (sgC (M 62) n) (pSg (sgC (M 62) n) u od) 5 s).2.1)) (rdM_p M _) ?_
      refine k_iconst C 26 (v := 1) (by decide) dX7_readBracketed_25 rfl ?_
      refine k_iadd C 27 dX7_readBracketed_26 rfl ?_
      refine k_teq (nI_add ((pJd (sgC (M 62) n) (pSg (sgC (M 62) n) u od) 5 s).2.1) 1) ?_
      refine k_put C 30 flX7_29 plX7 77 (by decide) (ce_77 g _) (ce_77 g _) (Nat.le_of_ble_eq_true rfl) rfl rfl rfl dX7_readBracketed_27 rfl ?_
      refine k_iconst C 31 (v := 1) (by decide) dX7_readBracketed_30 rfl ?_
      refine k_ret C rfl dX7_readBracketed_31 ?_
      exact ⟨b2i_pos (decide_eq_true ⟨d6, c15⟩), by rw [rdM_go, if_pos ⟨d6, c15⟩]⟩
    · skip
      refine k_iconst C 19 (v := 0) (by decide) dX7_readBracketed_18 rfl ?_
      refine k_ret C rfl dX7_readBracketed_19 ?_
      exact ⟨b2i_neg (decide_eq_false (fun q => d15 q.2)), by rw [if_neg (fun q => d15 q.2)]⟩
set_option maxHeartbeats 4000000 in
set_option maxRecDepth 20000 in
theorem qX7_readSingle_0 (l : Launch) (g : GT) (hs0 : True) (M : Mem) {n u : Nat} (s : PS) (hH : rdH M n u) (hs : okS n s)  : CtrE l g yX7_readSingle cX7_readSingle 3 (some .boolean) (8 * 0 + 3) [.ref (ga g 77), .int (nI (5 - 0))] (rdM M s) (b2i (pSg (sgC (M 62) n) u 0 s).1) (rdM M (pSg (sgC (M 62) n) u 0 s).2) := by
  refine ctrI_of (by decide +kernel) (Nat.le_of_ble_eq_true rfl) ?_
  intro pP eE RR sS mI aG bB mE cD C
  refine k_lo (lo' := [(0, .ref (ga g 77)), (1, .int (nI (5 - 0)))]) rfl ?_
  have hn60 := hH.2.2.2.1
  have hp := hs.1
  have hz := hs.2
  refine k_aload_n C 1 0 rfl rfl dX7_readSingle_0 rfl ?_
  refine k_callVE C 4 (As := []) (st := []) 77 (by decide) (ce_77 g _) rfl rfl mwX7_43 vlX7_signHere (qX7_signHere l g M s hH hs) mlX7_signHere (by omega) (by decide) rfl rfl (Nat.le_of_ble_eq_true rfl) dX7_readSingle_1 rfl ?_
  refine k_istore_n C 5 [(2, .int (sgC (M 62) n s.1)), (0, .ref (ga g 77)), (1, .int (nI (5 - 0)))] rfl (by decide) rfl dX7_readSingle_4 rfl ?_
  refine k_iload_n C 6 0 rfl rfl dX7_readSingle_5 rfl ?_
  refine k_callSE C 9 (As := [.int (sgC (M 62) n s.1)]) (st := []) mwX7_55 skX7_isDigit (qX7_isDigit l g (rdM M s) (sgC (M 62) n s.1)) mlX7_isDigit (by omega) (by decide) rfl rfl (Nat.le_of_ble_eq_true rfl) dX7_readSingle_6 rfl ?_
  refine k_if_eqB C 18 12 dX7_readSingle_9 (by decide) rfl (fun c9 => ?_) (fun d9 => ?_)
  · skip
    refine k_iload_n C 19 0 rfl rfl dX7_readSingle_18 rfl ?_
    refine k_bipush C 21 (v := 33) (by decide) dX7_readSingle_19 rfl ?_
    refine k_icmp_eq C 36 24 dX7_readSingle_21 (by decide) rfl (fun c21 => ?_) (fun d21 => ?_)
    · skip
      refine k_iload_n C 37 2 rfl rfl dX7_readSingle_36 rfl ?_
      refine k_iconst C 38 (v := 5) (by decide) dX7_readSingle_37 rfl ?_
      refine k_icmp_lt C 43 41 dX7_readSingle_38 (by decide) rfl (fun c38 => ?_) (fun d38 => ?_)
      · skip
        have c38 := (nI_ltI (by omega) (by omega)).mp (show nI (5 - 0) < nI 5 from c38)
        exact absurd c38 (by omega)
      · skip
        have d38 := mt (nI_ltI (by omega) (by omega)).mpr (show ¬ (nI (5 - 0) < nI 5) from d38)
        refine k_iconst C 42 (v := 0) (by decide) dX7_readSingle_41 rfl ?_
        refine k_ret C rfl dX7_readSingle_42 ?_
        refine ⟨?_, ?_⟩ <;> (simp only [pSg]; rw [if_neg (show ¬ isDg _ = true by rw [c9]; decide), if_pos (Or.inl c21)]); rfl
    · skip
      refine k_iload_n C 25 0 rfl rfl dX7_readSingle_24 rfl ?_
      refine k_bipush C 27 (v := 40) (by decide) dX7_readSingle_25 rfl ?_
      refine k_icmp_eq C 36 30 dX7_readSingle_27 (by decide) rfl (fun c27 => ?_) (fun d27 => ?_)
      · skip
        refine k_iload_n C 37 2 rfl rfl dX7_readSingle_36 rfl ?_
        refine k_iconst C 38 (v := 5) (by decide) dX7_readSingle_37 rfl ?_
        refine k_icmp_lt C 43 41 dX7_readSingle_38 (by decide) rfl (fun c38 => ?_) (fun d38 => ?_)
        · skip
          have c38 := (nI_ltI (by omega) (by omega)).mp (show nI (5 - 0) < nI 5 from c38)
          exact absurd c38 (by omega)
        · skip
          have d38 := mt (nI_ltI (by omega) (by omega)).mpr (show ¬ (nI (5 - 0) < nI 5) from d38)
          refine k_iconst C 42 (v := 0) (by decide) dX7_readSingle_41 rfl ?_
          refine k_ret C rfl dX7_readSingle_42 ?_
          refine ⟨?_, ?_⟩ <;> (simp only [pSg]; rw [if_neg (show ¬ isDg _ = true by rw [c9]; decide), if_pos (Or.inr c27)]); rfl
      · skip
        refine k_aload_n C 31 1 rfl rfl dX7_readSingle_30 rfl ?_
        refine k_iload_n C 32 0 rfl rfl dX7_readSingle_31 rfl ?_
        refine k_callVE C 35 (As := [.int (sgC (M 62) n s.1)]) (st := []) 77 (by decide) (ce_77 g _) rfl rfl mwX7_61 vlX7_readName (qX7_readName l g M s hH hs (sgC (M 62) n s.1)) mlX7_readName (by omega) (by decide) rfl rfl (Nat.le_of_ble_eq_true rfl) dX7_readSingle_32 rfl ?_
        refine k_ret C (nar_b2i _) dX7_readSingle_35 ?_
        refine ⟨?_, ?_⟩ <;> (simp only [pSg]; rw [if_neg (show ¬ isDg _ = true by rw [c9]; decide), if_neg (show ¬ (_ ∨ _) from fun q => q.elim d21 d27)])
  · skip
    refine k_aload_n C 13 1 rfl rfl dX7_readSingle_12 rfl ?_
    refine k_callVU C 16 (As := []) (st := []) 77 (by decide) (ce_77 g _) rfl rfl mwX7_58 vlX7_readNumber (qX7_readNumber l g M s hH hs) mlX7_readNumber (by omega) (by decide) rfl rfl (Nat.le_of_ble_eq_true rfl) dX7_readSingle_13 rfl ?_
    refine k_iconst C 17 (v := 1) (by decide) dX7_readSingle_16 rfl ?_
    refine k_ret C rfl dX7_readSingle_17 ?_
    exact ⟨b2i_pos (by simp only [pSg]; rw [if_pos d9]; rfl), by simp only [pSg]; rw [if_pos d9]⟩
set_option maxHeartbeats 4000000 in
set_option maxRecDepth 20000 in
theorem qX7_readSingle_s (l : Launch) (g : GT) (od : Nat) (h5 : od < 5) (hS : HS l g od) (hJ : HJ l g od 5) (M : Mem) {n u : Nat} (s : PS) (hH : rdH M n u) (hs : okS n s)  : CtrE l g yX7_readSingle cX7_readSingle 3 (some .boolean) (8 * (od + 1) + 3) [.ref (ga g 77), .int (nI (5 - (od + 1)))] (rdM M s) (b2i (pSg (sgC (M 62) n) u (od + 1) s).1) (rdM M (pSg (sgC (M 62) n) u (od + 1) s).2) := by
  refine ctrI_of (by decide +kernel) (Nat.le_of_ble_eq_true rfl) ?_
  intro pP eE RR sS mI aG bB mE cD C
  refine k_lo (lo' := [(0, .ref (ga g 77)), (1, .int (nI (5 - (od + 1))))]) rfl ?_
  have hn60 := hH.2.2.2.1
  have hp := hs.1
  have hz := hs.2
  refine k_aload_n C 1 0 rfl rfl dX7_readSingle_0 rfl ?_
  refine k_callVE C 4 (As := []) (st := []) 77 (by decide) (ce_77 g _) rfl rfl mwX7_43 vlX7_signHere (qX7_signHere l g M s hH hs) mlX7_signHere (by omega) (by decide) rfl rfl (Nat.le_of_ble_eq_true rfl) dX7_readSingle_1 rfl ?_
  refine k_istore_n C 5 [(2, .int (sgC (M 62) n s.1)), (0, .ref (ga g 77)), (1, .int (nI (5 - (od + 1))))] rfl (by decide) rfl dX7_readSingle_4 rfl ?_
  refine k_iload_n C 6 0 rfl rfl dX7_readSingle_5 rfl ?_
  refine k_callSE C 9 (As := [.int (sgC (M 62) n s.1)]) (st := []) mwX7_55 skX7_isDigit (qX7_isDigit l g (rdM M s) (sgC (M 62) n s.1)) mlX7_isDigit (by omega) (by decide) rfl rfl (Nat.le_of_ble_eq_true rfl) dX7_readSingle_6 rfl ?_
  refine k_if_eqB C 18 12 dX7_readSingle_9 (by decide) rfl (fun c9 => ?_) (fun d9 => ?_)
  · skip
    refine k_iload_n C 19 0 rfl rfl dX7_readSingle_18 rfl ?_
    refine k_bipush C 21 (v := 33) (by decide) dX7_readSingle_19 rfl ?_
    refine k_icmp_eq C 36 24 dX7_readSingle_21 (by decide) rfl (fun c21 => ?_) (fun d21 => ?_)
    · skip
      refine k_iload_n C 37 2 rfl rfl dX7_readSingle_36 rfl ?_
      refine k_iconst C 38 (v := 5) (by decide) dX7_readSingle_37 rfl ?_
      refine k_icmp_lt C 43 41 dX7_readSingle_38 (by decide) rfl (fun c38 => ?_) (fun d38 => ?_)
      · skip
        have c38 := (nI_ltI (by omega) (by omega)).mp (show nI (5 - (od + 1)) < nI 5 from c38)
        refine k_aload_n C 44 1 rfl rfl dX7_readSingle_43 rfl ?_
        refine k_dup C 45 rfl dX7_readSingle_44 rfl ?_
        refine k_get C 48 flX7_29 77 (by decide) (v := .int ((rdM M s) 77 1)) (ce_77 g _) rfl dX7_readSingle_45 rfl ?_
        refine k_teq (y := nI s.1) (rdM_p M s) ?_
        refine k_iconst C 49 (v := 1) (by decide) dX7_readSingle_48 rfl ?_
        refine k_iadd C 50 dX7_readSingle_49 rfl ?_
        refine k_teq (nI_add s.1 1) ?_
        refine k_put C 53 flX7_29 plX7 77 (by decide) (ce_77 g _) (ce_77 g _) (Nat.le_of_ble_eq_true rfl) rfl rfl rfl dX7_readSingle_50 rfl ?_
        refine k_mem (M' := rdM M (psGo s)) (rdM_go M s) ?_
        have hgo : okS n (psGo s) := ⟨at_in (sgC_end (M 62) n) (Or.inl c21), hs.2⟩
        refine k_iload_n C 54 0 rfl rfl dX7_readSingle_53 rfl ?_
        refine k_bipush C 56 (v := 33) (by decide) dX7_readSingle_54 rfl ?_
        refine k_icmp_ne C 69 59 dX7_readSingle_56 (by decide) rfl (fun c56 => ?_) (fun d56 => ?_)
        · skip
          exact absurd c21 c56
        · skip
          refine k_aload_n C 60 1 rfl rfl dX7_readSingle_59 rfl ?_
          refine k_iload_n C 61 2 rfl rfl dX7_readSingle_60 rfl ?_
          refine k_iconst C 62 (v := 1) (by decide) dX7_readSingle_61 rfl ?_
          refine k_iadd C 63 dX7_readSingle_62 rfl ?_
          refine k_teq (nI_add (5 - (od + 1)) 1) ?_
          refine k_teq (y := nI (5 - od)) (by rw [show 5 - (od + 1) + 1 = 5 - od by omega]) ?_
          refine k_callVE C 66 (As := [.int (nI (5 - od))]) (st := []) 77 (by decide) (ce_77 g _) rfl rfl mwX7_64 vlX7_readNegated (qX7_readNegated l g od h5 hS M (psGo s) hH hgo) mlX7_readNegated (by omega) (by decide) rfl rfl (Nat.le_of_ble_eq_true rfl) dX7_readSingle_63 rfl ?_
          refine k_goto C 76 dX7_readSingle_66 (by decide) ?_
          refine k_ret C (nar_b2i _) dX7_readSingle_76 ?_
          simp only [pSg]
          rw [if_neg (show ¬ isDg _ = true by rw [c9]; decide), if_pos d56]
          by_cases hq : (pSg (sgC (M 62) n) u od (psGo s)).1 = true
          · rw [if_pos hq, if_pos hq, hq]; exact ⟨rfl, rfl⟩
          · rw [if_neg hq, if_neg hq, Bool.eq_false_iff.mpr hq]; exact ⟨rfl, rfl⟩
      · skip
        have d38 := mt (nI_ltI (by omega) (by omega)).mpr (show ¬ (nI (5 - (od + 1)) < nI 5) from d38)
        exact absurd (show 5 - (od + 1) < 5 by omega) d38
    · skip
      refine k_iload_n C 25 0 rfl rfl dX7_readSingle_24 rfl ?_
      refine k_bipush C 27 (v := 40) (by decide) dX7_readSingle_25 rfl ?_
      refine k_icmp_eq C 36 30 dX7_readSingle_27 (by decide) rfl (fun c27 => ?_) (fun d27 => ?_)
      · skip
        refine k_iload_n C 37 2 rfl rfl dX7_readSingle_36 rfl ?_
        refine k_iconst C 38 (v := 5) (by decide) dX7_readSingle_37 rfl ?_
        refine k_icmp_lt C 43 41 dX7_readSingle_38 (by decide) rfl (fun c38 => ?_) (fun d38 => ?_)
        · skip
          have c38 := (nI_ltI (by omega) (by omega)).mp (show nI (5 - (od + 1)) < nI 5 from c38)
          refine k_aload_n C 44 1 rfl rfl dX7_readSingle_43 rfl ?_
          refine k_dup C 45 rfl dX7_readSingle_44 rfl ?_
          refine k_get C 48 flX7_29 77 (by decide) (v := .int ((rdM M s) 77 1)) (ce_77 g _) rfl dX7_readSingle_45 rfl ?_
          refine k_teq (y := nI s.1) (rdM_p M s) ?_
          refine k_iconst C 49 (v := 1) (by decide) dX7_readSingle_48 rfl ?_
          refine k_iadd C 50 dX7_readSingle_49 rfl ?_
          refine k_teq (nI_add s.1 1) ?_
          refine k_put C 53 flX7_29 plX7 77 (by decide) (ce_77 g _) (ce_77 g _) (Nat.le_of_ble_eq_true rfl) rfl rfl rfl dX7_readSingle_50 rfl ?_
          refine k_mem (M' := rdM M (psGo s)) (rdM_go M s) ?_
          have hgo : okS n (psGo s) := ⟨at_in (sgC_end (M 62) n) (Or.inr (Or.inl c27)), hs.2⟩
          refine k_iload_n C 54 0 rfl rfl dX7_readSingle_53 rfl ?_
          refine k_bipush C 56 (v := 33) (by decide) dX7_readSingle_54 rfl ?_
          refine k_icmp_ne C 69 59 dX7_readSingle_56 (by decide) rfl (fun c56 => ?_) (fun d56 => ?_)
          · skip
            refine k_aload_n C 70 1 rfl rfl dX7_readSingle_69 rfl ?_
            refine k_iload_n C 71 2 rfl rfl dX7_readSingle_70 rfl ?_
            refine k_iconst C 72 (v := 1) (by decide) dX7_readSingle_71 rfl ?_
            refine k_iadd C 73 dX7_readSingle_72 rfl ?_
            refine k_teq (nI_add (5 - (od + 1)) 1) ?_
            refine k_teq (y := nI (5 - od)) (by rw [show 5 - (od + 1) + 1 = 5 - od by omega]) ?_
            refine k_callVE C 76 (As := [.int (nI (5 - od))]) (st := []) 77 (by decide) (ce_77 g _) rfl rfl mwX7_67 vlX7_readBracketed (qX7_readBracketed l g od h5 hJ M (psGo s) hH hgo) mlX7_readBracketed (by omega) (by decide) rfl rfl (Nat.le_of_ble_eq_true rfl) dX7_readSingle_73 rfl ?_
            refine k_ret C (nar_b2i _) dX7_readSingle_76 ?_
            simp only [pSg]
            rw [if_neg (show ¬ isDg _ = true by rw [c9]; decide), if_neg d21, if_pos c27]
            by_cases hq : (pJd (sgC (M 62) n) (pSg (sgC (M 62) n) u od) 5 (psGo s)).1 = true ∧ (sgC (M 62) n) (pJd (sgC (M 62) n) (pSg (sgC (M 62) n) u od) 5 (psGo s)).2.1 = 41
            · rw [if_pos hq, if_pos hq, decide_eq_true hq]; exact ⟨rfl, rfl⟩
            · rw [if_neg hq, if_neg hq, decide_eq_false hq]; exact ⟨rfl, rfl⟩
          · skip
            exact absurd d56 d21
        · skip
          have d38 := mt (nI_ltI (by omega) (by omega)).mpr (show ¬ (nI (5 - (od + 1)) < nI 5) from d38)
          exact absurd (show 5 - (od + 1) < 5 by omega) d38
      · skip
        refine k_aload_n C 31 1 rfl rfl dX7_readSingle_30 rfl ?_
        refine k_iload_n C 32 0 rfl rfl dX7_readSingle_31 rfl ?_
        refine k_callVE C 35 (As := [.int (sgC (M 62) n s.1)]) (st := []) 77 (by decide) (ce_77 g _) rfl rfl mwX7_61 vlX7_readName (qX7_readName l g M s hH hs (sgC (M 62) n s.1)) mlX7_readName (by omega) (by decide) rfl rfl (Nat.le_of_ble_eq_true rfl) dX7_readSingle_32 rfl ?_
        refine k_ret C (nar_b2i _) dX7_readSingle_35 ?_
        refine ⟨?_, ?_⟩ <;> (simp only [pSg]; rw [if_neg (show ¬ isDg _ = true by rw [c9]; decide), if_neg d21, if_neg d27])
  · skip
    refine k_aload_n C 13 1 rfl rfl dX7_readSingle_12 rfl ?_
    refine k_callVU C 16 (As := []) (st := []) 77 (by decide) (ce_77 g _) rfl rfl mwX7_58 vlX7_readNumber (qX7_readNumber l g M s hH hs) mlX7_readNumber (by omega) (by decide) rfl rfl (Nat.le_of_ble_eq_true rfl) dX7_readSingle_13 rfl ?_
    refine k_iconst C 17 (v := 1) (by decide) dX7_readSingle_16 rfl ?_
    refine k_ret C rfl dX7_readSingle_17 ?_
    exact ⟨b2i_pos (by simp only [pSg]; rw [if_pos d9]; rfl), by simp only [pSg]; rw [if_pos d9]⟩
set_option maxHeartbeats 4000000 in
set_option maxRecDepth 20000 in
theorem qX7_readJoined_0 (l : Launch) (g : GT) (od : Nat) (h5 : od ≤ 5) (hS : HS l g od) (M : Mem) {n u : Nat} (s : PS) (hH : rdH M n u) (hs : okS n s)  : CtrE l g yX7_readJoined cX7_readJoined 6 (some .boolean) (8 * od + 4 + 0) [.ref (ga g 77), .int (nI (5 - 0)), .int (nI (5 - od))] (rdM M s) (b2i (pJd (sgC (M 62) n) (pSg (sgC (M 62) n) u od) 0 s).1) (rdM M (pJd (sgC (M 62) n) (pSg (sgC (M 62) n) u od) 0 s).2) := by
  refine ctrI_of (by decide +kernel) (Nat.le_of_ble_eq_true rfl) ?_
  intro pP eE RR sS mI aG bB mE cD C
  refine k_lo (lo' := [(0, .ref (ga g 77)), (1, .int (nI (5 - 0))), (2, .int (nI (5 - od)))]) rfl ?_
  have hn60 := hH.2.2.2.1
  have hp := hs.1
  have hz := hs.2
  refine k_iload_n C 1 1 rfl rfl dX7_readJoined_0 rfl ?_
  refine k_iconst C 2 (v := 4) (by decide) dX7_readJoined_1 rfl ?_
  refine k_icmp_le C 11 5 dX7_readJoined_2 (by decide) rfl (fun c2 => ?_) (fun d2 => ?_)
  · skip
    have c2 := (nI_leI (by omega) (by omega)).mp (show nI (5 - 0) ≤ nI 4 from c2)
    exact absurd c2 (by omega)
  · skip
    have d2 := mt (nI_leI (by omega) (by omega)).mpr (show ¬ (nI (5 - 0) ≤ nI 4) from d2)
    refine k_aload_n C 6 0 rfl rfl dX7_readJoined_5 rfl ?_
    refine k_iload_n C 7 2 rfl rfl dX7_readJoined_6 rfl ?_
    refine k_callVE C 10 (As := [.int (nI (5 - od))]) (st := []) 77 (by decide) (ce_77 g _) rfl rfl mwX7_39 vlX7_readSingle (hS M n u s hH hs) mlX7_readSingle (by omega) (by decide) rfl rfl (Nat.le_of_ble_eq_true rfl) dX7_readJoined_7 rfl ?_
    refine k_ret C (nar_b2i _) dX7_readJoined_10 ?_
    exact ⟨rfl, rfl⟩
set_option maxHeartbeats 4000000 in
set_option maxRecDepth 20000 in
theorem qX7_readJoined_s (l : Launch) (g : GT) (od j : Nat) (h5 : od ≤ 5) (hj : j < 5) (hJ : HJ l g od j) (M : Mem) {n u : Nat} (s : PS) (hH : rdH M n u) (hs : okS n s)  : CtrE l g yX7_readJoined cX7_readJoined 6 (some .boolean) (8 * od + 4 + (j + 1)) [.ref (ga g 77), .int (nI (5 - (j + 1))), .int (nI (5 - od))] (rdM M s) (b2i (pJd (sgC (M 62) n) (pSg (sgC (M 62) n) u od) (j + 1) s).1) (rdM M (pJd (sgC (M 62) n) (pSg (sgC (M 62) n) u od) (j + 1) s).2) := by
  refine ctrI_of (by decide +kernel) (Nat.le_of_ble_eq_true rfl) ?_
  intro pP eE RR sS mI aG bB mE cD C
  refine k_lo (lo' := [(0, .ref (ga g 77)), (1, .int (nI (5 - (j + 1)))), (2, .int (nI (5 - od)))]) rfl ?_
  have hn60 := hH.2.2.2.1
  have hp := hs.1
  have hz := hs.2
  refine k_iload_n C 1 1 rfl rfl dX7_readJoined_0 rfl ?_
  refine k_iconst C 2 (v := 4) (by decide) dX7_readJoined_1 rfl ?_
  refine k_icmp_le C 11 5 dX7_readJoined_2 (by decide) rfl (fun c2 => ?_) (fun d2 => ?_)
  · skip
    have c2 := (nI_leI (by omega) (by omega)).mp (show nI (5 - (j + 1)) ≤ nI 4 from c2)
    refine k_aload_n C 12 0 rfl rfl dX7_readJoined_11 rfl ?_
    refine k_iload_n C 13 1 rfl rfl dX7_readJoined_12 rfl ?_
    refine k_iconst C 14 (v := 1) (by decide) dX7_readJoined_13 rfl ?_
    refine k_iadd C 15 dX7_readJoined_14 rfl ?_
    refine k_teq (nI_add (5 - (j + 1)) 1) ?_
    refine k_teq (y := nI (5 - j)) (by rw [show 5 - (j + 1) + 1 = 5 - j by omega]) ?_
    refine k_iload_n C 16 2 rfl rfl dX7_readJoined_15 rfl ?_
    refine k_callVE C 19 (As := [.int (nI (5 - j)), .int (nI (5 - od))]) (st := []) 77 (by decide) (ce_77 g _) rfl rfl mwX7_35 vlX7_readJoined (hJ M n u s hH hs) mlX7_readJoined (by omega) (by decide) rfl rfl (Nat.le_of_ble_eq_true rfl) dX7_readJoined_16 rfl ?_
    refine k_if_neB C 24 22 dX7_readJoined_19 (by decide) rfl (fun c19 => ?_) (fun d19 => ?_)
    · skip
      refine k_iload_n C 25 1 rfl rfl dX7_readJoined_24 rfl ?_
      refine k_iconst C 26 (v := 2) (by decide) dX7_readJoined_25 rfl ?_
      refine k_icmp_ne C 33 29 dX7_readJoined_26 (by decide) rfl (fun c26 => ?_) (fun d26 => ?_)
      · skip
        have c26 := mt (nI_eq (by omega) (by omega)).mpr (show ¬ (nI (5 - (j + 1)) = nI 2) from c26)
        refine k_bipush C 35 (v := 60) (by decide) dX7_readJoined_33 rfl ?_
        refine k_istore_n C 36 [(3, .int 60), (0, .ref (ga g 77)), (1, .int (nI (5 - (j + 1)))), (2, .int (nI (5 - od)))] rfl (by decide) rfl dX7_readJoined_35 rfl ?_
        refine k_iconst C 37 (v := 0) (by decide) dX7_readJoined_36 rfl ?_
        refine k_istore C 39 [(4, .int 0), (3, .int 60), (0, .ref (ga g 77)), (1, .int (nI (5 - (j + 1)))), (2, .int (nI (5 - od)))]  (by decide) rfl dX7_readJoined_37 rfl ?_
        have hmo : (if 5 - (j + 1) = 2 then 1 else 60) = 60 := if_neg c26
        refine k_sub [(0, .ref (ga g 77)), (1, .int (nI (5 - (j + 1)))), (2, .int (nI (5 - od))), (3, .int 60), (4, .int 0)] [2, 3, 4, 1, 0] rfl ?_
        refine k_all (M' := rdM M ((pJd (sgC (M 62) n) (pSg (sgC (M 62) n) u od) j s).2)) (lo' := [(0, .ref (ga g 77)), (1, .int (nI (5 - (j + 1)))), (2, .int (nI (5 - od))), (3, .int 60), (4, .int (nI 0))]) (st' := []) (by rfl) (by rfl) rfl ?_
        refine k_loop (σ := Nat × PS) (fun (v : Nat × PS) => match v with | (i, s2) => (i ≤ 60) ∧ (okS n s2) ∧ (pLoopJ (sgC (M 62) n) (pJd (sgC (M 62) n) (pSg (sgC (M 62) n) u od) j) (nI (5 - (j + 1))) 60 (pJd (sgC (M 62) n) (pSg (sgC (M 62) n) u od) j s).2 = pLoopJ (sgC (M 62) n) (pJd (sgC (M 62) n) (pSg (sgC (M 62) n) u od) j) (nI (5 - (j + 1))) (60 - i) s2)) (fun (v : Nat × PS) => match v with | (i, s2) => 60 - i) (fun (v : Nat × PS) => match v with | (i, s2) => rdM M s2) (fun (v : Nat × PS) => match v with | (i, s2) => [(0, .ref (ga g 77)), (1, .int (nI (5 - (j + 1)))), (2, .int (nI (5 - od))), (3, .int 60), (4, .int (nI i))]) (0, (pJd (sgC (M 62) n) (pSg (sgC (M 62) n) u od) j s).2) (show (0 ≤ 60) ∧ (okS n ((pJd (sgC (M 62) n) (pSg (sgC (M 62) n) u od) j s).2)) ∧ (pLoopJ (sgC (M 62) n) (pJd (sgC (M 62) n) (pSg (sgC (M 62) n) u od) j) (nI (5 - (j + 1))) 60 (pJd (sgC (M 62) n) (pSg (sgC (M 62) n) u od) j s).2 = pLoopJ (sgC (M 62) n) (pJd (sgC (M 62) n) (pSg (sgC (M 62) n) u od) j) (nI (5 - (j + 1))) (60 - 0) ((pJd (sgC (M 62) n) (pSg (sgC (M 62) n) u od) j s).2)) from by exact ⟨Nat.zero_le _, pJd_ok (sgC_end _ _) (pSg_ok (sgC_end _ _) hH.2.2.2.2 od) j (by omega) s hs, rfl⟩) ?_
        rintro ⟨i, s2⟩ hI ih
        have hI : (i ≤ 60) ∧ (okS n s2) ∧ (pLoopJ (sgC (M 62) n) (pJd (sgC (M 62) n) (pSg (sgC (M 62) n) u od) j) (nI (5 - (j + 1))) 60 (pJd (sgC (M 62) n) (pSg (sgC (M 62) n) u od) j s).2 = pLoopJ (sgC (M 62) n) (pJd (sgC (M 62) n) (pSg (sgC (M 62) n) u od) j) (nI (5 - (j + 1))) (60 - i) s2) := hI
        obtain ⟨hi, ho, he⟩ := hI
        show KW pP l eE RR sS mI aG bB mE cD g 6 _ (rdM M s2) 39 [(0, .ref (ga g 77)), (1, .int (nI (5 - (j + 1)))), (2, .int (nI (5 - od))), (3, .int 60), (4, .int (nI i))] []
        have hp2 := ho.1
        refine k_iload C 41 4  rfl dX7_readJoined_39 rfl ?_
        refine k_iload_n C 42 3 rfl rfl dX7_readJoined_41 rfl ?_
        refine k_icmp_ge C 101 45 dX7_readJoined_42 (by decide) rfl (fun c42 => ?_) (fun d42 => ?_)
        · skip
          have c42 := (nI_leI (by omega) (by omega)).mp (show nI 60 ≤ nI i from c42)
          refine k_iconst C 102 (v := 1) (by decide) dX7_readJoined_101 rfl ?_
          refine k_ret C rfl dX7_readJoined_102 ?_
          have hr : (pJd (sgC (M 62) n) (pSg (sgC (M 62) n) u od) (j + 1) s) = pLoopJ (sgC (M 62) n) (pJd (sgC (M 62) n) (pSg (sgC (M 62) n) u od) j) (nI (5 - (j + 1))) 60 (pJd (sgC (M 62) n) (pSg (sgC (M 62) n) u od) j s).2 := by
            simp only [pJd]; rw [if_pos c19, hmo]
          rw [hr, he]
          rw [show 60 - i = 0 by omega]; exact ⟨rfl, rfl⟩
        · skip
          have d42 := mt (nI_leI (by omega) (by omega)).mpr (show ¬ (nI 60 ≤ nI i) from d42)
          refine k_aload_n C 46 0 rfl rfl dX7_readJoined_45 rfl ?_
          refine k_callVE C 49 (As := []) (st := []) 77 (by decide) (ce_77 g _) rfl rfl mwX7_43 vlX7_signHere (qX7_signHere l g M s2 hH ho) mlX7_signHere (by omega) (by decide) rfl rfl (Nat.le_of_ble_eq_true rfl) dX7_readJoined_46 rfl ?_
          refine k_callSE C 52 (As := [.int (sgC (M 62) n s2.1)]) (st := []) mwX7_47 skX7_levelOf (qX7_levelOf l g (rdM M s2) (sgC (M 62) n s2.1)) mlX7_levelOf (by omega) (by decide) rfl rfl (Nat.le_of_ble_eq_true rfl) dX7_readJoined_49 rfl ?_
          refine k_iload_n C 53 1 rfl rfl dX7_readJoined_52 rfl ?_
          refine k_icmp_ne C 101 56 dX7_readJoined_53 (by decide) rfl (fun c53 => ?_) (fun d53 => ?_)
          · skip
            refine k_iconst C 102 (v := 1) (by decide) dX7_readJoined_101 rfl ?_
            refine k_ret C rfl dX7_readJoined_102 ?_
            have hr : (pJd (sgC (M 62) n) (pSg (sgC (M 62) n) u od) (j + 1) s) = pLoopJ (sgC (M 62) n) (pJd (sgC (M 62) n) (pSg (sgC (M 62) n) u od) j) (nI (5 - (j + 1))) 60 (pJd (sgC (M 62) n) (pSg (sgC (M 62) n) u od) j s).2 := by
              simp only [pJd]; rw [if_pos c19, hmo]
            rw [hr, he]
            rw [show 60 - i = (60 - (i + 1)) + 1 by omega]; simp only [pLoopJ]; rw [if_neg c53]; exact ⟨rfl, rfl⟩
          · skip
            refine k_aload_n C 57 0 rfl rfl dX7_readJoined_56 rfl ?_
            refine k_callVE C 60 (As := []) (st := []) 77 (by decide) (ce_77 g _) rfl rfl mwX7_43 vlX7_signHere (qX7_signHere l g M s2 hH ho) mlX7_signHere (by omega) (by decide) rfl rfl (Nat.le_of_ble_eq_true rfl) dX7_readJoined_57 rfl ?_
            refine k_istore C 62 [(5, .int (sgC (M 62) n s2.1)), (0, .ref (ga g 77)), (1, .int (nI (5 - (j + 1)))), (2, .int (nI (5 - od))), (3, .int 60), (4, .int (nI i))]  (by decide) rfl dX7_readJoined_60 rfl ?_
            refine k_aload_n C 63 1 rfl rfl dX7_readJoined_62 rfl ?_
            refine k_dup C 64 rfl dX7_readJoined_63 rfl ?_
            refine k_get C 67 flX7_29 77 (by decide) (v := .int ((rdM M s2) 77 1)) (ce_77 g _) rfl dX7_readJoined_64 rfl ?_
            refine k_teq (y := nI s2.1) (rdM_p M s2) ?_
            refine k_iconst C 68 (v := 1) (by decide) dX7_readJoined_67 rfl ?_
            refine k_iadd C 69 dX7_readJoined_68 rfl ?_
            refine k_teq (nI_add s2.1 1) ?_
            refine k_put C 72 flX7_29 plX7 77 (by decide) (ce_77 g _) (ce_77 g _) (Nat.le_of_ble_eq_true rfl) rfl rfl rfl dX7_readJoined_69 rfl ?_
            refine k_mem (M' := rdM M (psGo s2)) (rdM_go M s2) ?_
            have hgo : okS n (psGo s2) := ⟨lvl_in (sgC_end (M 62) n) (show 5 - (j + 1) ≤ 5 by omega) d53, ho.2⟩
            refine k_aload_n C 73 1 rfl rfl dX7_readJoined_72 rfl ?_
            refine k_iload_n C 74 2 rfl rfl dX7_readJoined_73 rfl ?_
            refine k_iconst C 75 (v := 1) (by decide) dX7_readJoined_74 rfl ?_
            refine k_iadd C 76 dX7_readJoined_75 rfl ?_
            refine k_teq (nI_add (5 - (j + 1)) 1) ?_
            refine k_teq (y := nI (5 - j)) (by rw [show 5 - (j + 1) + 1 = 5 - j by omega]) ?_
            refine k_iload_n C 77 3 rfl rfl dX7_readJoined_76 rfl ?_
            refine k_callVE C 80 (As := [.int (nI (5 - j)), .int (nI (5 - od))]) (st := []) 77 (by decide) (ce_77 g _) rfl rfl mwX7_35 vlX7_readJoined (hJ M n u (psGo s2) hH hgo) mlX7_readJoined (by omega) (by decide) rfl rfl (Nat.le_of_ble_eq_true rfl) dX7_readJoined_77 rfl ?_
            refine k_if_neB C 85 83 dX7_readJoined_80 (by decide) rfl (fun c80 => ?_) (fun d80 => ?_)
            · skip
              refine k_aload_n C 86 1 rfl rfl dX7_readJoined_85 rfl ?_
              refine k_get C 89 flX7_12 77 (by decide) (v := .ref (ga g 51)) (ce_77 g _) rfl dX7_readJoined_86 rfl ?_
              refine k_iload C 91 0  rfl dX7_readJoined_89 rfl ?_
              refine k_ineg C 92 dX7_readJoined_91 rfl ?_
              refine k_callVU C 95 (As := [.int (-(sgC (M 62) n s2.1))]) (st := []) 51 (by decide) (ce_law g _ (show 4 < 5 by decide)) rfl rfl mwX7_51 vlX3_add (qDraftAdd l g M (pJd (sgC (M 62) n) (pSg (sgC (M 62) n) u od) j (psGo s2)).2 (pJd_ok (sgC_end _ _) (pSg_ok (sgC_end _ _) hH.2.2.2.2 od) j (by omega) _ hgo).2 (-(sgC (M 62) n s2.1))) mlX3_add (by omega) (by decide) rfl rfl (Nat.le_of_ble_eq_true rfl) dX7_readJoined_92 rfl ?_
              refine k_iinc C 98 (nI (i + 1)) 5 [(4, .int (nI (i + 1))), (5, .int (sgC (M 62) n s2.1)), (0, .ref (ga g 77)), (1, .int (nI (5 - (j + 1)))), (2, .int (nI (5 - od))), (3, .int 60)] rfl (iinc_p i) (by decide) rfl dX7_readJoined_95 rfl ?_
              refine k_goto C 39 dX7_readJoined_98 (by decide) ?_
              refine k_sub [(0, .ref (ga g 77)), (1, .int (nI (5 - (j + 1)))), (2, .int (nI (5 - od))), (3, .int 60), (4, .int (nI (i + 1)))] [2, 3, 4, 5, 0] rfl ?_
              refine k_all (M' := rdM M (psAdd (pJd (sgC (M 62) n) (pSg (sgC (M 62) n) u od) j (psGo s2)).2 (-(sgC (M 62) n s2.1)))) (lo' := [(0, .ref (ga g 77)), (1, .int (nI (5 - (j + 1)))), (2, .int (nI (5 - od))), (3, .int 60), (4, .int (nI (i + 1)))]) (st' := []) (by rfl) (by rfl) rfl ?_
              exact ih (i + 1, psAdd (pJd (sgC (M 62) n) (pSg (sgC (M 62) n) u od) j (psGo s2)).2 (-(sgC (M 62) n s2.1))) (show ((i + 1) ≤ 60) ∧ (okS n (psAdd (pJd (sgC (M 62) n) (pSg (sgC (M 62) n) u od) j (psGo s2)).2 (-(sgC (M 62) n s2.1)))) ∧ (pLoopJ (sgC (M 62) n) (pJd (sgC (M 62) n) (pSg (sgC (M 62) n) u od) j) (nI (5 - (j + 1))) 60 (pJd (sgC (M 62) n) (pSg (sgC (M 62) n) u od) j s).2 = pLoopJ (sgC (M 62) n) (pJd (sgC (M 62) n) (pSg (sgC (M 62) n) u od) j) (nI (5 - (j + 1))) (60 - (i + 1)) (psAdd (pJd (sgC (M 62) n) (pSg (sgC (M 62) n) u od) j (psGo s2)).2 (-(sgC (M 62) n s2.1)))) from by exact ⟨by omega, psAdd_ok _ (pJd_ok (sgC_end _ _) (pSg_ok (sgC_end _ _) hH.2.2.2.2 od) j (by omega) _ hgo), by
                      rw [he, show 60 - i = (60 - (i + 1)) + 1 by omega]; simp only [pLoopJ]; rw [if_pos d53, if_pos c80]⟩) (by show 60 - (i + 1) < 60 - i; omega)
            · skip
              refine k_iconst C 84 (v := 0) (by decide) dX7_readJoined_83 rfl ?_
              refine k_ret C rfl dX7_readJoined_84 ?_
              have hr : (pJd (sgC (M 62) n) (pSg (sgC (M 62) n) u od) (j + 1) s) = pLoopJ (sgC (M 62) n) (pJd (sgC (M 62) n) (pSg (sgC (M 62) n) u od) j) (nI (5 - (j + 1))) 60 (pJd (sgC (M 62) n) (pSg (sgC (M 62) n) u od) j s).2 := by
                simp only [pJd]; rw [if_pos c19, hmo]
              rw [hr, he]
              rw [show 60 - i = (60 - (i + 1)) + 1 by omega]; simp only [pLoopJ]; rw [if_pos d53, if_neg (by rw [d80]; decide)]; exact ⟨rfl, rfl⟩
      · skip
        have d26 := (nI_eq (by omega) (by omega)).mp (show nI (5 - (j + 1)) = nI 2 from d26)
        refine k_iconst C 30 (v := 1) (by decide) dX7_readJoined_29 rfl ?_
        refine k_goto C 35 dX7_readJoined_30 (by decide) ?_
        refine k_istore_n C 36 [(3, .int 1), (0, .ref (ga g 77)), (1, .int (nI (5 - (j + 1)))), (2, .int (nI (5 - od)))] rfl (by decide) rfl dX7_readJoined_35 rfl ?_
        refine k_iconst C 37 (v := 0) (by decide) dX7_readJoined_36 rfl ?_
        refine k_istore C 39 [(4, .int 0), (3, .int 1), (0, .ref (ga g 77)), (1, .int (nI (5 - (j + 1)))), (2, .int (nI (5 - od)))]  (by decide) rfl dX7_readJoined_37 rfl ?_
        have hmo : (if 5 - (j + 1) = 2 then 1 else 60) = 1 := if_pos d26
        refine k_sub [(0, .ref (ga g 77)), (1, .int (nI (5 - (j + 1)))), (2, .int (nI (5 - od))), (3, .int 1), (4, .int 0)] [2, 3, 4, 1, 0] rfl ?_
        refine k_all (M' := rdM M ((pJd (sgC (M 62) n) (pSg (sgC (M 62) n) u od) j s).2)) (lo' := [(0, .ref (ga g 77)), (1, .int (nI (5 - (j + 1)))), (2, .int (nI (5 - od))), (3, .int 1), (4, .int (nI 0))]) (st' := []) (by rfl) (by rfl) rfl ?_
        refine k_loop (σ := Nat × PS) (fun (v : Nat × PS) => match v with | (i, s2) => (i ≤ 1) ∧ (okS n s2) ∧ (pLoopJ (sgC (M 62) n) (pJd (sgC (M 62) n) (pSg (sgC (M 62) n) u od) j) (nI (5 - (j + 1))) 1 (pJd (sgC (M 62) n) (pSg (sgC (M 62) n) u od) j s).2 = pLoopJ (sgC (M 62) n) (pJd (sgC (M 62) n) (pSg (sgC (M 62) n) u od) j) (nI (5 - (j + 1))) (1 - i) s2)) (fun (v : Nat × PS) => match v with | (i, s2) => 1 - i) (fun (v : Nat × PS) => match v with | (i, s2) => rdM M s2) (fun (v : Nat × PS) => match v with | (i, s2) => [(0, .ref (ga g 77)), (1, .int (nI (5 - (j + 1)))), (2, .int (nI (5 - od))), (3, .int 1), (4, .int (nI i))]) (0, (pJd (sgC (M 62) n) (pSg (sgC (M 62) n) u od) j s).2) (show (0 ≤ 1) ∧ (okS n ((pJd (sgC (M 62) n) (pSg (sgC (M 62) n) u od) j s).2)) ∧ (pLoopJ (sgC (M 62) n) (pJd (sgC (M 62) n) (pSg (sgC (M 62) n) u od) j) (nI (5 - (j + 1))) 1 (pJd (sgC (M 62) n) (pSg (sgC (M 62) n) u od) j s).2 = pLoopJ (sgC (M 62) n) (pJd (sgC (M 62) n) (pSg (sgC (M 62) n) u od) j) (nI (5 - (j + 1))) (1 - 0) ((pJd (sgC (M 62) n) (pSg (sgC (M 62) n) u od) j s).2)) from by exact ⟨Nat.zero_le _, pJd_ok (sgC_end _ _) (pSg_ok (sgC_end _ _) hH.2.2.2.2 od) j (by omega) s hs, rfl⟩) ?_
        rintro ⟨i, s2⟩ hI ih
        have hI : (i ≤ 1) ∧ (okS n s2) ∧ (pLoopJ (sgC (M 62) n) (pJd (sgC (M 62) n) (pSg (sgC (M 62) n) u od) j) (nI (5 - (j + 1))) 1 (pJd (sgC (M 62) n) (pSg (sgC (M 62) n) u od) j s).2 = pLoopJ (sgC (M 62) n) (pJd (sgC (M 62) n) (pSg (sgC (M 62) n) u od) j) (nI (5 - (j + 1))) (1 - i) s2) := hI
        obtain ⟨hi, ho, he⟩ := hI
        show KW pP l eE RR sS mI aG bB mE cD g 6 _ (rdM M s2) 39 [(0, .ref (ga g 77)), (1, .int (nI (5 - (j + 1)))), (2, .int (nI (5 - od))), (3, .int 1), (4, .int (nI i))] []
        have hp2 := ho.1
        refine k_iload C 41 4  rfl dX7_readJoined_39 rfl ?_
        refine k_iload_n C 42 3 rfl rfl dX7_readJoined_41 rfl ?_
        refine k_icmp_ge C 101 45 dX7_readJoined_42 (by decide) rfl (fun c42 => ?_) (fun d42 => ?_)
        · skip
          have c42 := (nI_leI (by omega) (by omega)).mp (show nI 1 ≤ nI i from c42)
          refine k_iconst C 102 (v := 1) (by decide) dX7_readJoined_101 rfl ?_
          refine k_ret C rfl dX7_readJoined_102 ?_
          have hr : (pJd (sgC (M 62) n) (pSg (sgC (M 62) n) u od) (j + 1) s) = pLoopJ (sgC (M 62) n) (pJd (sgC (M 62) n) (pSg (sgC (M 62) n) u od) j) (nI (5 - (j + 1))) 1 (pJd (sgC (M 62) n) (pSg (sgC (M 62) n) u od) j s).2 := by
            simp only [pJd]; rw [if_pos c19, hmo]
          rw [hr, he]
          rw [show 1 - i = 0 by omega]; exact ⟨rfl, rfl⟩
        · skip
          have d42 := mt (nI_leI (by omega) (by omega)).mpr (show ¬ (nI 1 ≤ nI i) from d42)
          refine k_aload_n C 46 0 rfl rfl dX7_readJoined_45 rfl ?_
          refine k_callVE C 49 (As := []) (st := []) 77 (by decide) (ce_77 g _) rfl rfl mwX7_43 vlX7_signHere (qX7_signHere l g M s2 hH ho) mlX7_signHere (by omega) (by decide) rfl rfl (Nat.le_of_ble_eq_true rfl) dX7_readJoined_46 rfl ?_
          refine k_callSE C 52 (As := [.int (sgC (M 62) n s2.1)]) (st := []) mwX7_47 skX7_levelOf (qX7_levelOf l g (rdM M s2) (sgC (M 62) n s2.1)) mlX7_levelOf (by omega) (by decide) rfl rfl (Nat.le_of_ble_eq_true rfl) dX7_readJoined_49 rfl ?_
          refine k_iload_n C 53 1 rfl rfl dX7_readJoined_52 rfl ?_
          refine k_icmp_ne C 101 56 dX7_readJoined_53 (by decide) rfl (fun c53 => ?_) (fun d53 => ?_)
          · skip
            refine k_iconst C 102 (v := 1) (by decide) dX7_readJoined_101 rfl ?_
            refine k_ret C rfl dX7_readJoined_102 ?_
            have hr : (pJd (sgC (M 62) n) (pSg (sgC (M 62) n) u od) (j + 1) s) = pLoopJ (sgC (M 62) n) (pJd (sgC (M 62) n) (pSg (sgC (M 62) n) u od) j) (nI (5 - (j + 1))) 1 (pJd (sgC (M 62) n) (pSg (sgC (M 62) n) u od) j s).2 := by
              simp only [pJd]; rw [if_pos c19, hmo]
            rw [hr, he]
            rw [show 1 - i = (1 - (i + 1)) + 1 by omega]; simp only [pLoopJ]; rw [if_neg c53]; exact ⟨rfl, rfl⟩
          · skip
            refine k_aload_n C 57 0 rfl rfl dX7_readJoined_56 rfl ?_
            refine k_callVE C 60 (As := []) (st := []) 77 (by decide) (ce_77 g _) rfl rfl mwX7_43 vlX7_signHere (qX7_signHere l g M s2 hH ho) mlX7_signHere (by omega) (by decide) rfl rfl (Nat.le_of_ble_eq_true rfl) dX7_readJoined_57 rfl ?_
            refine k_istore C 62 [(5, .int (sgC (M 62) n s2.1)), (0, .ref (ga g 77)), (1, .int (nI (5 - (j + 1)))), (2, .int (nI (5 - od))), (3, .int 1), (4, .int (nI i))]  (by decide) rfl dX7_readJoined_60 rfl ?_
            refine k_aload_n C 63 1 rfl rfl dX7_readJoined_62 rfl ?_
            refine k_dup C 64 rfl dX7_readJoined_63 rfl ?_
            refine k_get C 67 flX7_29 77 (by decide) (v := .int ((rdM M s2) 77 1)) (ce_77 g _) rfl dX7_readJoined_64 rfl ?_
            refine k_teq (y := nI s2.1) (rdM_p M s2) ?_
            refine k_iconst C 68 (v := 1) (by decide) dX7_readJoined_67 rfl ?_
            refine k_iadd C 69 dX7_readJoined_68 rfl ?_
            refine k_teq (nI_add s2.1 1) ?_
            refine k_put C 72 flX7_29 plX7 77 (by decide) (ce_77 g _) (ce_77 g _) (Nat.le_of_ble_eq_true rfl) rfl rfl rfl dX7_readJoined_69 rfl ?_
            refine k_mem (M' := rdM M (psGo s2)) (rdM_go M s2) ?_
            have hgo : okS n (psGo s2) := ⟨lvl_in (sgC_end (M 62) n) (show 5 - (j + 1) ≤ 5 by omega) d53, ho.2⟩
            refine k_aload_n C 73 1 rfl rfl dX7_readJoined_72 rfl ?_
            refine k_iload_n C 74 2 rfl rfl dX7_readJoined_73 rfl ?_
            refine k_iconst C 75 (v := 1) (by decide) dX7_readJoined_74 rfl ?_
            refine k_iadd C 76 dX7_readJoined_75 rfl ?_
            refine k_teq (nI_add (5 - (j + 1)) 1) ?_
            refine k_teq (y := nI (5 - j)) (by rw [show 5 - (j + 1) + 1 = 5 - j by omega]) ?_
            refine k_iload_n C 77 3 rfl rfl dX7_readJoined_76 rfl ?_
            refine k_callVE C 80 (As := [.int (nI (5 - j)), .int (nI (5 - od))]) (st := []) 77 (by decide) (ce_77 g _) rfl rfl mwX7_35 vlX7_readJoined (hJ M n u (psGo s2) hH hgo) mlX7_readJoined (by omega) (by decide) rfl rfl (Nat.le_of_ble_eq_true rfl) dX7_readJoined_77 rfl ?_
            refine k_if_neB C 85 83 dX7_readJoined_80 (by decide) rfl (fun c80 => ?_) (fun d80 => ?_)
            · skip
              refine k_aload_n C 86 1 rfl rfl dX7_readJoined_85 rfl ?_
              refine k_get C 89 flX7_12 77 (by decide) (v := .ref (ga g 51)) (ce_77 g _) rfl dX7_readJoined_86 rfl ?_
              refine k_iload C 91 0  rfl dX7_readJoined_89 rfl ?_
              refine k_ineg C 92 dX7_readJoined_91 rfl ?_
              refine k_callVU C 95 (As := [.int (-(sgC (M 62) n s2.1))]) (st := []) 51 (by decide) (ce_law g _ (show 4 < 5 by decide)) rfl rfl mwX7_51 vlX3_add (qDraftAdd l g M (pJd (sgC (M 62) n) (pSg (sgC (M 62) n) u od) j (psGo s2)).2 (pJd_ok (sgC_end _ _) (pSg_ok (sgC_end _ _) hH.2.2.2.2 od) j (by omega) _ hgo).2 (-(sgC (M 62) n s2.1))) mlX3_add (by omega) (by decide) rfl rfl (Nat.le_of_ble_eq_true rfl) dX7_readJoined_92 rfl ?_
              refine k_iinc C 98 (nI (i + 1)) 5 [(4, .int (nI (i + 1))), (5, .int (sgC (M 62) n s2.1)), (0, .ref (ga g 77)), (1, .int (nI (5 - (j + 1)))), (2, .int (nI (5 - od))), (3, .int 1)] rfl (iinc_p i) (by decide) rfl dX7_readJoined_95 rfl ?_
              refine k_goto C 39 dX7_readJoined_98 (by decide) ?_
              refine k_sub [(0, .ref (ga g 77)), (1, .int (nI (5 - (j + 1)))), (2, .int (nI (5 - od))), (3, .int 1), (4, .int (nI (i + 1)))] [2, 3, 4, 5, 0] rfl ?_
              refine k_all (M' := rdM M (psAdd (pJd (sgC (M 62) n) (pSg (sgC (M 62) n) u od) j (psGo s2)).2 (-(sgC (M 62) n s2.1)))) (lo' := [(0, .ref (ga g 77)), (1, .int (nI (5 - (j + 1)))), (2, .int (nI (5 - od))), (3, .int 1), (4, .int (nI (i + 1)))]) (st' := []) (by rfl) (by rfl) rfl ?_
              exact ih (i + 1, psAdd (pJd (sgC (M 62) n) (pSg (sgC (M 62) n) u od) j (psGo s2)).2 (-(sgC (M 62) n s2.1))) (show ((i + 1) ≤ 1) ∧ (okS n (psAdd (pJd (sgC (M 62) n) (pSg (sgC (M 62) n) u od) j (psGo s2)).2 (-(sgC (M 62) n s2.1)))) ∧ (pLoopJ (sgC (M 62) n) (pJd (sgC (M 62) n) (pSg (sgC (M 62) n) u od) j) (nI (5 - (j + 1))) 1 (pJd (sgC (M 62) n) (pSg (sgC (M 62) n) u od) j s).2 = pLoopJ (sgC (M 62) n) (pJd (sgC (M 62) n) (pSg (sgC (M 62) n) u od) j) (nI (5 - (j + 1))) (1 - (i + 1)) (psAdd (pJd (sgC (M 62) n) (pSg (sgC (M 62) n) u od) j (psGo s2)).2 (-(sgC (M 62) n s2.1)))) from by exact ⟨by omega, psAdd_ok _ (pJd_ok (sgC_end _ _) (pSg_ok (sgC_end _ _) hH.2.2.2.2 od) j (by omega) _ hgo), by
                      rw [he, show 1 - i = (1 - (i + 1)) + 1 by omega]; simp only [pLoopJ]; rw [if_pos d53, if_pos c80]⟩) (by show 1 - (i + 1) < 1 - i; omega)
            · skip
              refine k_iconst C 84 (v := 0) (by decide) dX7_readJoined_83 rfl ?_
              refine k_ret C rfl dX7_readJoined_84 ?_
              have hr : (pJd (sgC (M 62) n) (pSg (sgC (M 62) n) u od) (j + 1) s) = pLoopJ (sgC (M 62) n) (pJd (sgC (M 62) n) (pSg (sgC (M 62) n) u od) j) (nI (5 - (j + 1))) 1 (pJd (sgC (M 62) n) (pSg (sgC (M 62) n) u od) j s).2 := by
                simp only [pJd]; rw [if_pos c19, hmo]
              rw [hr, he]
              rw [show 1 - i = (1 - (i + 1)) + 1 by omega]; simp only [pLoopJ]; rw [if_pos d53, if_neg (by rw [d80]; decide)]; exact ⟨rfl, rfl⟩
    · skip
      refine k_iconst C 23 (v := 0) (by decide) dX7_readJoined_22 rfl ?_
      refine k_ret C rfl dX7_readJoined_23 ?_
      simp only [pJd]
      rw [if_neg (by rw [d19]; decide)]; exact ⟨rfl, rfl⟩
  · skip
    have d2 := mt (nI_leI (by omega) (by omega)).mpr (show ¬ (nI (5 - (j + 1)) ≤ nI 4) from d2)
    exact absurd (show 5 - (j + 1) ≤ 4 by omega) d2
theorem qJ_of (l : Launch) (g : GT) (od : Nat) (h5 : od ≤ 5) (hS : HS l g od) : ∀ j, j ≤ 5 → HJ l g od j
  | 0, _ => fun M _ _ s hH hs => qX7_readJoined_0 l g od h5 hS M s hH hs
  | j + 1, hj => fun M _ _ s hH hs => qX7_readJoined_s l g od j h5 (by omega) (qJ_of l g od h5 hS j (by omega)) M s hH hs
theorem qS_all (l : Launch) (g : GT) : ∀ od, od ≤ 5 → HS l g od
  | 0, _ => fun M _ _ s hH hs => qX7_readSingle_0 l g trivial M s hH hs
  | od + 1, h => fun M _ _ s hH hs => qX7_readSingle_s l g od (by omega) (qS_all l g od (by omega)) (qJ_of l g od (by omega) (qS_all l g od (by omega)) 5 (Nat.le_refl _)) M s hH hs
theorem qJ_all (l : Launch) (g : GT) (od : Nat) (h : od ≤ 5) (j : Nat) (hj : j ≤ 5) : HJ l g od j := qJ_of l g od h (qS_all l g od h) j hj
theorem rd0_H (M : Mem) {n u : Nat} (hn : n ≤ 60) (hu : u < 2) : rdH (rd0 M n u) n u := ⟨by simp [rd0, mu_at], by simp [rd0, mu_at], by simp [rd0, mu_at], hn, hu⟩
theorem rd0_62 (M : Mem) (n u : Nat) : rd0 M n u 62 = M 62 := by simp only [rd0, mu_n _ _ _ (show (62 : Nat) ≠ 77 by decide)]
theorem rd_begin (M : Mem) (n u : Nat) : mu (mu (mu (mu (mu M 77 2 (nI 62)) 77 3 (nI n)) 77 4 (nI u)) 77 1 0) 51 1 0 = rdM (rd0 M n u) (0, 0, M 56) := by
  funext a
  unfold rdM rd0
  by_cases h1 : a = 51
  · subst h1; rw [mu_r, mu_r]; simp only [mrow_n _ _ (show (51 : Nat) ≠ 56 by decide)]; rfl
  · rw [mu_n _ _ _ h1, mu_n _ _ _ h1]
    by_cases h2 : a = 56
    · subst h2; rw [mrow_s]; simp only [mu_n _ _ _ (show (56 : Nat) ≠ 77 by decide)]
    · rw [mrow_n _ _ h2]; rfl

set_option maxHeartbeats 4000000 in
set_option maxRecDepth 20000 in
theorem qX7_read (l : Launch) (g : GT) (M : Mem) {n u : Nat} (hn : n ≤ 60) (hu : u < 2) : CtrE l g yX7_read cX7_read 4 (some .boolean) 50 [.ref (ga g 77), .ref (ga g 62), .int (nI n), .int (nI u)] M (b2i ((pParse (sgC (M 62) n) u (M 56)).1 && decide ((pParse (sgC (M 62) n) u (M 56)).2.1 = n))) (rdM (rd0 M n u) (pParse (sgC (M 62) n) u (M 56)).2) := by
  refine ctrI_of (by decide +kernel) (Nat.le_of_ble_eq_true rfl) ?_
  intro pP eE RR sS mI aG bB mE cD C
  refine k_lo (lo' := [(0, .ref (ga g 77)), (1, .ref (ga g 62)), (2, .int (nI n)), (3, .int (nI u))]) rfl ?_
  have hH := rd0_H M hn hu
  have h0 : okS n (0, 0, M 56) := ⟨Nat.zero_le _, Nat.zero_le _⟩
  have hok := pJd_ok (sgC_end (M 62) n) (pSg_ok (sgC_end (M 62) n) hu 5) 5 (Nat.le_refl _) _ h0
  have hk := hok.1
  have hrun : CtrE l g yX7_readJoined cX7_readJoined 6 (some .boolean) (8 * 5 + 4 + 5) [.ref (ga g 77), .int (nI (5 - 5)), .int (nI (5 - 5))] (rdM (rd0 M n u) (0, 0, M 56)) (b2i (pParse (sgC (M 62) n) u (M 56)).1) (rdM (rd0 M n u) (pParse (sgC (M 62) n) u (M 56)).2) := by
    have h := qJ_all l g 5 (Nat.le_refl _) 5 (Nat.le_refl _) (rd0 M n u) n u (0, 0, M 56) hH h0
    rw [rd0_62] at h; exact h
  have hk : (pParse (sgC (M 62) n) u (M 56)).2.1 ≤ n := hk
  refine k_aload_n C 1 0 rfl rfl dX7_read_0 rfl ?_
  refine k_aload_n C 2 1 rfl rfl dX7_read_1 rfl ?_
  refine k_putr C 5 flX7_18 plX7 77 (by decide) (upd (M 77) 2 (nI 62)) (ce_77 g _) ((rd_put g _)) (Nat.le_of_ble_eq_true rfl) rfl rfl rfl dX7_read_2 rfl ?_
  show KW pP l eE RR sS mI aG bB mE cD g 4 _ (mu M 77 2 (nI 62)) 5 _ _
  refine k_aload_n C 6 0 rfl rfl dX7_read_5 rfl ?_
  refine k_iload_n C 7 2 rfl rfl dX7_read_6 rfl ?_
  refine k_put C 10 flX7_22 plX7 77 (by decide) (ce_77 g _) (ce_77 g _) (Nat.le_of_ble_eq_true rfl) rfl rfl rfl dX7_read_7 rfl ?_
  refine k_aload_n C 11 0 rfl rfl dX7_read_10 rfl ?_
  refine k_iload_n C 12 3 rfl rfl dX7_read_11 rfl ?_
  refine k_put C 15 flX7_26 plX7 77 (by decide) (ce_77 g _) (ce_77 g _) (Nat.le_of_ble_eq_true rfl) rfl rfl rfl dX7_read_12 rfl ?_
  refine k_aload_n C 16 0 rfl rfl dX7_read_15 rfl ?_
  refine k_iconst C 17 (v := 0) (by decide) dX7_read_16 rfl ?_
  refine k_put C 20 flX7_29 plX7 77 (by decide) (ce_77 g _) (ce_77 g _) (Nat.le_of_ble_eq_true rfl) rfl rfl rfl dX7_read_17 rfl ?_
  refine k_aload_n C 21 0 rfl rfl dX7_read_20 rfl ?_
  refine k_get C 24 flX7_12 77 (by decide) (v := .ref (ga g 51)) (ce_77 g _) rfl dX7_read_21 rfl ?_
  refine k_callVU C 27 (As := []) (st := []) 51 (by decide) (ce_law g _ (show 4 < 5 by decide)) rfl rfl mwX7_32 vlX3_clear (qX3_clear l g (mu (mu (mu (mu M 77 2 (nI 62)) 77 3 (nI n)) 77 4 (nI u)) 77 1 0) (show 4 < 5 by decide)) mlX3_clear (by decide) (by decide) rfl rfl (Nat.le_of_ble_eq_true rfl) dX7_read_24 rfl ?_
  refine k_mem (M' := rdM (rd0 M n u) (0, 0, M 56)) (rd_begin M n u) ?_
  refine k_aload_n C 28 0 rfl rfl dX7_read_27 rfl ?_
  refine k_iconst C 29 (v := 0) (by decide) dX7_read_28 rfl ?_
  refine k_iconst C 30 (v := 0) (by decide) dX7_read_29 rfl ?_
  refine k_callVE C 33 (As := [.int 0, .int 0]) (st := []) 77 (by decide) (ce_77 g _) rfl rfl mwX7_35 vlX7_readJoined hrun mlX7_readJoined (by decide) (by decide) rfl rfl (Nat.le_of_ble_eq_true rfl) dX7_read_30 rfl ?_
  refine k_if_eqB C 51 36 dX7_read_33 (by decide) rfl (fun c33 => ?_) (fun d33 => ?_)
  · skip
    refine k_iconst C 52 (v := 0) (by decide) dX7_read_51 rfl ?_
    refine k_ret C rfl dX7_read_52 ?_
    exact ⟨b2i_neg (by rw [c33]; rfl), rfl⟩
  · skip
    refine k_aload_n C 37 0 rfl rfl dX7_read_36 rfl ?_
    refine k_get C 40 flX7_29 77 (by decide) (v := .int ((rdM (rd0 M n u) (pParse (sgC (M 62) n) u (M 56)).2) 77 1)) (ce_77 g _) rfl dX7_read_37 rfl ?_
    refine k_teq (y := nI ((pParse (sgC (M 62) n) u (M 56)).2.1)) (rdM_p _ _) ?_
    refine k_aload_n C 41 0 rfl rfl dX7_read_40 rfl ?_
    refine k_get C 44 flX7_22 77 (by decide) (v := .int ((rdM (rd0 M n u) (pParse (sgC (M 62) n) u (M 56)).2) 77 3)) (ce_77 g _) rfl dX7_read_41 rfl ?_
    refine k_teq (y := nI n) ((rdM_f _ _ (by decide)).trans hH.2.1) ?_
    refine k_icmp_ne C 51 47 dX7_read_44 (by decide) rfl (fun c44 => ?_) (fun d44 => ?_)
    · skip
      have c44 := mt (nI_eq (by omega) (by omega)).mpr (show ¬ (nI ((pParse (sgC (M 62) n) u (M 56)).2.1) = nI n) from c44)
      refine k_iconst C 52 (v := 0) (by decide) dX7_read_51 rfl ?_
      refine k_ret C rfl dX7_read_52 ?_
      exact ⟨b2i_neg (by rw [d33, decide_eq_false c44]; rfl), rfl⟩
    · skip
      have d44 := (nI_eq (by omega) (by omega)).mp (show nI ((pParse (sgC (M 62) n) u (M 56)).2.1) = nI n from d44)
      refine k_iconst C 48 (v := 1) (by decide) dX7_read_47 rfl ?_
      refine k_goto C 52 dX7_read_48 (by decide) ?_
      refine k_ret C rfl dX7_read_52 ?_
      exact ⟨b2i_pos (by rw [d33, decide_eq_true d44]; rfl), rfl⟩
