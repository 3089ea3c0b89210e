-- the class: sheets
def layM (M : Mem) (s : Nat) (b z : Int32) : Mem := mrow (mu (mu M (81 + s) 1 b) (81 + s) 2 z) (85 + s) (zr 24 (M (85 + s)))
def lnC (M : Mem) (C : Nat → Int32) : Nat → Mem
  | 0 => M
  | i + 1 => mu (mu (lnC M C i) i 2 (C i / 10)) i 3 (C i - C i / 10 * 10)
theorem lnC_o (M : Mem) (C : Nat → Int32) {a : Nat} : ∀ i, i ≤ a → lnC M C i a = M a
  | 0, _ => rfl
  | i + 1, h => by simp only [lnC]; rw [mu_n _ _ _ (show a ≠ i by omega), mu_n _ _ _ (show a ≠ i by omega), lnC_o M C i (by omega)]

set_option maxHeartbeats 4000000 in
set_option maxRecDepth 20000 in
theorem qX9_sheet_f (l : Launch) (g : GT) (M : Mem) (s b z : Int32) (hf : ((decide (0 ≤ s) && decide (s < 4)) && (decide (b = 0) || decide (b = 8) || decide (b = 16) || decide (b = 32))) = false) : CtrE l g yX9_sheet cX9_sheet 4 (some .int) 2 [.ref (ga g 90), .int s, .int b, .int z] M (-1000000001) (mu M 89 1 (M 89 1 + 1)) := by
  refine ctrI_of (by decide +kernel) (Nat.le_of_ble_eq_true rfl) ?_
  intro pP eE RR sS mI aG bB mE cD C
  refine k_lo (lo' := [(0, .ref (ga g 90)), (1, .int s), (2, .int b), (3, .int z)]) rfl ?_
  refine k_iload_n C 1 1 rfl rfl dX9_sheet_0 rfl ?_
  refine k_callSE C 4 (As := [.int s]) (st := []) mwX9_274 skX9_isSheet (qX9_isSheet l g M s) mlX9_isSheet (by decide) (by decide) rfl rfl (Nat.le_of_ble_eq_true rfl) dX9_sheet_1 rfl ?_
  refine k_if_eqB C 29 7 dX9_sheet_4 (by decide) rfl (fun c4 => ?_) (fun d4 => ?_)
  · skip
    refine k_aload_n C 30 0 rfl rfl dX9_sheet_29 rfl ?_
    refine k_ldc C 32 cwX9_87 dX9_sheet_30 rfl ?_
    refine k_callVE C 35 (As := [.int (-1000000001)]) (st := []) 90 (by decide) (ce_90 g _) rfl rfl mwX9_88 vlX9_refuse (qX9_refuse l g M (-1000000001) (k := 1) (by decide) (by decide) (by decide)) mlX9_refuse (by decide) (by decide) rfl rfl (Nat.le_of_ble_eq_true rfl) dX9_sheet_32 rfl ?_
    refine k_ret C rfl dX9_sheet_35 ?_
    exact ⟨rfl, rfl⟩
  · skip
    refine k_iload_n C 8 2 rfl rfl dX9_sheet_7 rfl ?_
    refine k_if_eq C 36 11 dX9_sheet_8 (by decide) rfl (fun c8 => ?_) (fun d8 => ?_)
    · skip
      exact (bz hf (by simp [pKm, pLine, d4, c8])).elim
    · skip
      refine k_iload_n C 12 2 rfl rfl dX9_sheet_11 rfl ?_
      refine k_bipush C 14 (v := 8) (by decide) dX9_sheet_12 rfl ?_
      refine k_icmp_eq C 36 17 dX9_sheet_14 (by decide) rfl (fun c14 => ?_) (fun d14 => ?_)
      · skip
        exact (bz hf (by simp [pKm, pLine, d4, d8, c14])).elim
      · skip
        refine k_iload_n C 18 2 rfl rfl dX9_sheet_17 rfl ?_
        refine k_bipush C 20 (v := 16) (by decide) dX9_sheet_18 rfl ?_
        refine k_icmp_eq C 36 23 dX9_sheet_20 (by decide) rfl (fun c20 => ?_) (fun d20 => ?_)
        · skip
          exact (bz hf (by simp [pKm, pLine, d4, d8, d14, c20])).elim
        · skip
          refine k_iload_n C 24 2 rfl rfl dX9_sheet_23 rfl ?_
          refine k_bipush C 26 (v := 32) (by decide) dX9_sheet_24 rfl ?_
          refine k_icmp_eq C 36 29 dX9_sheet_26 (by decide) rfl (fun c26 => ?_) (fun d26 => ?_)
          · skip
            exact (bz hf (by simp [pKm, pLine, d4, d8, d14, d20, c26])).elim
          · skip
            refine k_aload_n C 30 0 rfl rfl dX9_sheet_29 rfl ?_
            refine k_ldc C 32 cwX9_87 dX9_sheet_30 rfl ?_
            refine k_callVE C 35 (As := [.int (-1000000001)]) (st := []) 90 (by decide) (ce_90 g _) rfl rfl mwX9_88 vlX9_refuse (qX9_refuse l g M (-1000000001) (k := 1) (by decide) (by decide) (by decide)) mlX9_refuse (by decide) (by decide) rfl rfl (Nat.le_of_ble_eq_true rfl) dX9_sheet_32 rfl ?_
            refine k_ret C rfl dX9_sheet_35 ?_
            exact ⟨rfl, rfl⟩
set_option maxHeartbeats 4000000 in
set_option maxRecDepth 20000 in
theorem qX9_sheet_neg (l : Launch) (g : GT) (M : Mem) {s : Nat} (hs : s < 4) {b : Int32} (hb : (b = 8 ∨ b = 16 ∨ b = 32)) (z : Int32) (hz : z < 0) : CtrE l g yX9_sheet cX9_sheet 4 (some .int) 2 [.ref (ga g 90), .int (nI s), .int b, .int z] M (-1000000003) (mu M 89 3 (M 89 3 + 1)) := by
  refine ctrI_of (by decide +kernel) (Nat.le_of_ble_eq_true rfl) ?_
  intro pP eE RR sS mI aG bB mE cD C
  refine k_lo (lo' := [(0, .ref (ga g 90)), (1, .int (nI s)), (2, .int b), (3, .int z)]) rfl ?_
  rcases hb with rfl | rfl | rfl
  · skip
    refine k_iload_n C 1 1 rfl rfl dX9_sheet_0 rfl ?_
    refine k_callSE C 4 (As := [.int (nI s)]) (st := []) mwX9_274 skX9_isSheet (qX9_isSheet l g M (nI s)) mlX9_isSheet (by decide) (by decide) rfl rfl (Nat.le_of_ble_eq_true rfl) dX9_sheet_1 rfl ?_
    refine k_if_eqB C 29 7 dX9_sheet_4 (by decide) rfl (fun c4 => ?_) (fun d4 => ?_)
    · skip
      exact (bz c4 (rg_lt (b := 4) hs (by decide))).elim
    · skip
      refine k_iload_n C 8 2 rfl rfl dX9_sheet_7 rfl ?_
      refine k_if_eq C 36 11 dX9_sheet_8 (by decide) rfl (fun c8 => ?_) (fun d8 => ?_)
      · skip
        exact absurd c8 (by decide)
      · skip
        refine k_iload_n C 12 2 rfl rfl dX9_sheet_11 rfl ?_
        refine k_bipush C 14 (v := 8) (by decide) dX9_sheet_12 rfl ?_
        refine k_icmp_eq C 36 17 dX9_sheet_14 (by decide) rfl (fun c14 => ?_) (fun d14 => ?_)
        · skip
          refine k_iload_n C 37 2 rfl rfl dX9_sheet_36 rfl ?_
          refine k_if_ne C 53 40 dX9_sheet_37 (by decide) rfl (fun c37 => ?_) (fun d37 => ?_)
          · skip
            refine k_iload_n C 54 3 rfl rfl dX9_sheet_53 rfl ?_
            refine k_if_ge C 64 57 dX9_sheet_54 (by decide) rfl (fun c54 => ?_) (fun d54 => ?_)
            · skip
              exact absurd hz (Int32.not_lt.mpr c54)
            · skip
              refine k_aload_n C 58 0 rfl rfl dX9_sheet_57 rfl ?_
              refine k_ldc C 60 cwX9_216 dX9_sheet_58 rfl ?_
              refine k_callVE C 63 (As := [.int (-1000000003)]) (st := []) 90 (by decide) (ce_90 g _) rfl rfl mwX9_88 vlX9_refuse (qX9_refuse l g M (-1000000003) (k := 3) (by decide) (by decide) (by decide)) mlX9_refuse (by decide) (by decide) rfl rfl (Nat.le_of_ble_eq_true rfl) dX9_sheet_60 rfl ?_
              refine k_ret C rfl dX9_sheet_63 ?_
              exact ⟨rfl, rfl⟩
          · skip
            exact absurd d37 (by decide)
        · skip
          exact absurd d14 (by decide)
  · skip
    refine k_iload_n C 1 1 rfl rfl dX9_sheet_0 rfl ?_
    refine k_callSE C 4 (As := [.int (nI s)]) (st := []) mwX9_274 skX9_isSheet (qX9_isSheet l g M (nI s)) mlX9_isSheet (by decide) (by decide) rfl rfl (Nat.le_of_ble_eq_true rfl) dX9_sheet_1 rfl ?_
    refine k_if_eqB C 29 7 dX9_sheet_4 (by decide) rfl (fun c4 => ?_) (fun d4 => ?_)
    · skip
      exact (bz c4 (rg_lt (b := 4) hs (by decide))).elim
    · skip
      refine k_iload_n C 8 2 rfl rfl dX9_sheet_7 rfl ?_
      refine k_if_eq C 36 11 dX9_sheet_8 (by decide) rfl (fun c8 => ?_) (fun d8 => ?_)
      · skip
        exact absurd c8 (by decide)
      · skip
        refine k_iload_n C 12 2 rfl rfl dX9_sheet_11 rfl ?_
        refine k_bipush C 14 (v := 8) (by decide) dX9_sheet_12 rfl ?_
        refine k_icmp_eq C 36 17 dX9_sheet_14 (by decide) rfl (fun c14 => ?_) (fun d14 => ?_)
        · skip
          exact absurd c14 (by decide)
        · skip
          refine k_iload_n C 18 2 rfl rfl dX9_sheet_17 rfl ?_
          refine k_bipush C 20 (v := 16) (by decide) dX9_sheet_18 rfl ?_
          refine k_icmp_eq C 36 23 dX9_sheet_20 (by decide) rfl (fun c20 => ?_) (fun d20 => ?_)
          · skip
            refine k_iload_n C 37 2 rfl rfl dX9_sheet_36 rfl ?_
            refine k_if_ne C 53 40 dX9_sheet_37 (by decide) rfl (fun c37 => ?_) (fun d37 => ?_)
            · skip
              refine k_iload_n C 54 3 rfl rfl dX9_sheet_53 rfl ?_
              refine k_if_ge C 64 57 dX9_sheet_54 (by decide) rfl (fun c54 => ?_) (fun d54 => ?_)
              · skip
                exact absurd hz (Int32.not_lt.mpr c54)
              · skip
                refine k_aload_n C 58 0 rfl rfl dX9_sheet_57 rfl ?_
                refine k_ldc C 60 cwX9_216 dX9_sheet_58 rfl ?_
                refine k_callVE C 63 (As := [.int (-1000000003)]) (st := []) 90 (by decide) (ce_90 g _) rfl rfl mwX9_88 vlX9_refuse (qX9_refuse l g M (-1000000003) (k := 3) (by decide) (by decide) (by decide)) mlX9_refuse (by decide) (by decide) rfl rfl (Nat.le_of_ble_eq_true rfl) dX9_sheet_60 rfl ?_
                refine k_ret C rfl dX9_sheet_63 ?_
                exact ⟨rfl, rfl⟩
            · skip
              exact absurd d37 (by decide)
          · skip
            exact absurd d20 (by decide)
  · skip
    refine k_iload_n C 1 1 rfl rfl dX9_sheet_0 rfl ?_
    refine k_callSE C 4 (As := [.int (nI s)]) (st := []) mwX9_274 skX9_isSheet (qX9_isSheet l g M (nI s)) mlX9_isSheet (by decide) (by decide) rfl rfl (Nat.le_of_ble_eq_true rfl) dX9_sheet_1 rfl ?_
    refine k_if_eqB C 29 7 dX9_sheet_4 (by decide) rfl (fun c4 => ?_) (fun d4 => ?_)
    · skip
      exact (bz c4 (rg_lt (b := 4) hs (by decide))).elim
    · skip
      refine k_iload_n C 8 2 rfl rfl dX9_sheet_7 rfl ?_
      refine k_if_eq C 36 11 dX9_sheet_8 (by decide) rfl (fun c8 => ?_) (fun d8 => ?_)
      · skip
        exact absurd c8 (by decide)
      · skip
        refine k_iload_n C 12 2 rfl rfl dX9_sheet_11 rfl ?_
        refine k_bipush C 14 (v := 8) (by decide) dX9_sheet_12 rfl ?_
        refine k_icmp_eq C 36 17 dX9_sheet_14 (by decide) rfl (fun c14 => ?_) (fun d14 => ?_)
        · skip
          exact absurd c14 (by decide)
        · skip
          refine k_iload_n C 18 2 rfl rfl dX9_sheet_17 rfl ?_
          refine k_bipush C 20 (v := 16) (by decide) dX9_sheet_18 rfl ?_
          refine k_icmp_eq C 36 23 dX9_sheet_20 (by decide) rfl (fun c20 => ?_) (fun d20 => ?_)
          · skip
            exact absurd c20 (by decide)
          · skip
            refine k_iload_n C 24 2 rfl rfl dX9_sheet_23 rfl ?_
            refine k_bipush C 26 (v := 32) (by decide) dX9_sheet_24 rfl ?_
            refine k_icmp_eq C 36 29 dX9_sheet_26 (by decide) rfl (fun c26 => ?_) (fun d26 => ?_)
            · skip
              refine k_iload_n C 37 2 rfl rfl dX9_sheet_36 rfl ?_
              refine k_if_ne C 53 40 dX9_sheet_37 (by decide) rfl (fun c37 => ?_) (fun d37 => ?_)
              · skip
                refine k_iload_n C 54 3 rfl rfl dX9_sheet_53 rfl ?_
                refine k_if_ge C 64 57 dX9_sheet_54 (by decide) rfl (fun c54 => ?_) (fun d54 => ?_)
                · skip
                  exact absurd hz (Int32.not_lt.mpr c54)
                · skip
                  refine k_aload_n C 58 0 rfl rfl dX9_sheet_57 rfl ?_
                  refine k_ldc C 60 cwX9_216 dX9_sheet_58 rfl ?_
                  refine k_callVE C 63 (As := [.int (-1000000003)]) (st := []) 90 (by decide) (ce_90 g _) rfl rfl mwX9_88 vlX9_refuse (qX9_refuse l g M (-1000000003) (k := 3) (by decide) (by decide) (by decide)) mlX9_refuse (by decide) (by decide) rfl rfl (Nat.le_of_ble_eq_true rfl) dX9_sheet_60 rfl ?_
                  refine k_ret C rfl dX9_sheet_63 ?_
                  exact ⟨rfl, rfl⟩
              · skip
                exact absurd d37 (by decide)
            · skip
              exact absurd d26 (by decide)
set_option maxHeartbeats 4000000 in
set_option maxRecDepth 20000 in
theorem qX9_sheet_big (l : Launch) (g : GT) (M : Mem) {s : Nat} (hs : s < 4) {b : Int32} (hb : (b = 8 ∨ b = 16 ∨ b = 32)) {z : Nat} (hz : 24 < z) (hz2 : z < 2 ^ 31) : CtrE l g yX9_sheet cX9_sheet 4 (some .int) 2 [.ref (ga g 90), .int (nI s), .int b, .int (nI z)] M (-1000000001) (mu M 89 1 (M 89 1 + 1)) := by
  refine ctrI_of (by decide +kernel) (Nat.le_of_ble_eq_true rfl) ?_
  intro pP eE RR sS mI aG bB mE cD C
  refine k_lo (lo' := [(0, .ref (ga g 90)), (1, .int (nI s)), (2, .int b), (3, .int (nI z))]) rfl ?_
  rcases hb with rfl | rfl | rfl
  · skip
    refine k_iload_n C 1 1 rfl rfl dX9_sheet_0 rfl ?_
    refine k_callSE C 4 (As := [.int (nI s)]) (st := []) mwX9_274 skX9_isSheet (qX9_isSheet l g M (nI s)) mlX9_isSheet (by decide) (by decide) rfl rfl (Nat.le_of_ble_eq_true rfl) dX9_sheet_1 rfl ?_
    refine k_if_eqB C 29 7 dX9_sheet_4 (by decide) rfl (fun c4 => ?_) (fun d4 => ?_)
    · skip
      exact (bz c4 (rg_lt (b := 4) hs (by decide))).elim
    · skip
      refine k_iload_n C 8 2 rfl rfl dX9_sheet_7 rfl ?_
      refine k_if_eq C 36 11 dX9_sheet_8 (by decide) rfl (fun c8 => ?_) (fun d8 => ?_)
      · skip
        exact absurd c8 (by decide)
      · skip
        refine k_iload_n C 12 2 rfl rfl dX9_sheet_11 rfl ?_
        refine k_bipush C 14 (v := 8) (by decide) dX9_sheet_12 rfl ?_
        refine k_icmp_eq C 36 17 dX9_sheet_14 (by decide) rfl (fun c14 => ?_) (fun d14 => ?_)
        · skip
          refine k_iload_n C 37 2 rfl rfl dX9_sheet_36 rfl ?_
          refine k_if_ne C 53 40 dX9_sheet_37 (by decide) rfl (fun c37 => ?_) (fun d37 => ?_)
          · skip
            refine k_iload_n C 54 3 rfl rfl dX9_sheet_53 rfl ?_
            refine k_if_ge C 64 57 dX9_sheet_54 (by decide) rfl (fun c54 => ?_) (fun d54 => ?_)
            · skip
              have c54 := (nI_leI (by omega) (by omega)).mp (show nI 0 ≤ nI z from c54)
              refine k_iload_n C 65 3 rfl rfl dX9_sheet_64 rfl ?_
              refine k_bipush C 67 (v := 24) (by decide) dX9_sheet_65 rfl ?_
              refine k_icmp_le C 77 70 dX9_sheet_67 (by decide) rfl (fun c67 => ?_) (fun d67 => ?_)
              · skip
                have c67 := (nI_leI (by omega) (by omega)).mp (show nI z ≤ nI 24 from c67)
                exact absurd c67 (by omega)
              · skip
                have d67 := mt (nI_leI (by omega) (by omega)).mpr (show ¬ (nI z ≤ nI 24) from d67)
                refine k_aload_n C 71 0 rfl rfl dX9_sheet_70 rfl ?_
                refine k_ldc C 73 cwX9_87 dX9_sheet_71 rfl ?_
                refine k_callVE C 76 (As := [.int (-1000000001)]) (st := []) 90 (by decide) (ce_90 g _) rfl rfl mwX9_88 vlX9_refuse (qX9_refuse l g M (-1000000001) (k := 1) (by decide) (by decide) (by decide)) mlX9_refuse (by decide) (by decide) rfl rfl (Nat.le_of_ble_eq_true rfl) dX9_sheet_73 rfl ?_
                refine k_ret C rfl dX9_sheet_76 ?_
                exact ⟨rfl, rfl⟩
            · skip
              have d54 := mt (nI_leI (by omega) (by omega)).mpr (show ¬ (nI 0 ≤ nI z) from d54)
              exact absurd d54 (by omega)
          · skip
            exact absurd d37 (by decide)
        · skip
          exact absurd d14 (by decide)
  · skip
    refine k_iload_n C 1 1 rfl rfl dX9_sheet_0 rfl ?_
    refine k_callSE C 4 (As := [.int (nI s)]) (st := []) mwX9_274 skX9_isSheet (qX9_isSheet l g M (nI s)) mlX9_isSheet (by decide) (by decide) rfl rfl (Nat.le_of_ble_eq_true rfl) dX9_sheet_1 rfl ?_
    refine k_if_eqB C 29 7 dX9_sheet_4 (by decide) rfl (fun c4 => ?_) (fun d4 => ?_)
    · skip
      exact (bz c4 (rg_lt (b := 4) hs (by decide))).elim
    · skip
      refine k_iload_n C 8 2 rfl rfl dX9_sheet_7 rfl ?_
      refine k_if_eq C 36 11 dX9_sheet_8 (by decide) rfl (fun c8 => ?_) (fun d8 => ?_)
      · skip
        exact absurd c8 (by decide)
      · skip
        refine k_iload_n C 12 2 rfl rfl dX9_sheet_11 rfl ?_
        refine k_bipush C 14 (v := 8) (by decide) dX9_sheet_12 rfl ?_
        refine k_icmp_eq C 36 17 dX9_sheet_14 (by decide) rfl (fun c14 => ?_) (fun d14 => ?_)
        · skip
          exact absurd c14 (by decide)
        · skip
          refine k_iload_n C 18 2 rfl rfl dX9_sheet_17 rfl ?_
          refine k_bipush C 20 (v := 16) (by decide) dX9_sheet_18 rfl ?_
          refine k_icmp_eq C 36 23 dX9_sheet_20 (by decide) rfl (fun c20 => ?_) (fun d20 => ?_)
          · skip
            refine k_iload_n C 37 2 rfl rfl dX9_sheet_36 rfl ?_
            refine k_if_ne C 53 40 dX9_sheet_37 (by decide) rfl (fun c37 => ?_) (fun d37 => ?_)
            · skip
              refine k_iload_n C 54 3 rfl rfl dX9_sheet_53 rfl ?_
              refine k_if_ge C 64 57 dX9_sheet_54 (by decide) rfl (fun c54 => ?_) (fun d54 => ?_)
              · skip
                have c54 := (nI_leI (by omega) (by omega)).mp (show nI 0 ≤ nI z from c54)
                refine k_iload_n C 65 3 rfl rfl dX9_sheet_64 rfl ?_
                refine k_bipush C 67 (v := 24) (by decide) dX9_sheet_65 rfl ?_
                refine k_icmp_le C 77 70 dX9_sheet_67 (by decide) rfl (fun c67 => ?_) (fun d67 => ?_)
                · skip
                  have c67 := (nI_leI (by omega) (by omega)).mp (show nI z ≤ nI 24 from c67)
                  exact absurd c67 (by omega)
                · skip
                  have d67 := mt (nI_leI (by omega) (by omega)).mpr (show ¬ (nI z ≤ nI 24) from d67)
                  refine k_aload_n C 71 0 rfl rfl dX9_sheet_70 rfl ?_
                  refine k_ldc C 73 cwX9_87 dX9_sheet_71 rfl ?_
                  refine k_callVE C 76 (As := [.int (-1000000001)]) (st := []) 90 (by decide) (ce_90 g _) rfl rfl mwX9_88 vlX9_refuse (qX9_refuse l g M (-1000000001) (k := 1) (by decide) (by decide) (by decide)) mlX9_refuse (by decide) (by decide) rfl rfl (Nat.le_of_ble_eq_true rfl) dX9_sheet_73 rfl ?_
                  refine k_ret C rfl dX9_sheet_76 ?_
                  exact ⟨rfl, rfl⟩
              · skip
                have d54 := mt (nI_leI (by omega) (by omega)).mpr (show ¬ (nI 0 ≤ nI z) from d54)
                exact absurd d54 (by omega)
            · skip
              exact absurd d37 (by decide)
          · skip
            exact absurd d20 (by decide)
  · skip
    refine k_iload_n C 1 1 rfl rfl dX9_sheet_0 rfl ?_
    refine k_callSE C 4 (As := [.int (nI s)]) (st := []) mwX9_274 skX9_isSheet (qX9_isSheet l g M (nI s)) mlX9_isSheet (by decide) (by decide) rfl rfl (Nat.le_of_ble_eq_true rfl) dX9_sheet_1 rfl ?_
    refine k_if_eqB C 29 7 dX9_sheet_4 (by decide) rfl (fun c4 => ?_) (fun d4 => ?_)
    · skip
      exact (bz c4 (rg_lt (b := 4) hs (by decide))).elim
    · skip
      refine k_iload_n C 8 2 rfl rfl dX9_sheet_7 rfl ?_
      refine k_if_eq C 36 11 dX9_sheet_8 (by decide) rfl (fun c8 => ?_) (fun d8 => ?_)
      · skip
        exact absurd c8 (by decide)
      · skip
        refine k_iload_n C 12 2 rfl rfl dX9_sheet_11 rfl ?_
        refine k_bipush C 14 (v := 8) (by decide) dX9_sheet_12 rfl ?_
        refine k_icmp_eq C 36 17 dX9_sheet_14 (by decide) rfl (fun c14 => ?_) (fun d14 => ?_)
        · skip
          exact absurd c14 (by decide)
        · skip
          refine k_iload_n C 18 2 rfl rfl dX9_sheet_17 rfl ?_
          refine k_bipush C 20 (v := 16) (by decide) dX9_sheet_18 rfl ?_
          refine k_icmp_eq C 36 23 dX9_sheet_20 (by decide) rfl (fun c20 => ?_) (fun d20 => ?_)
          · skip
            exact absurd c20 (by decide)
          · skip
            refine k_iload_n C 24 2 rfl rfl dX9_sheet_23 rfl ?_
            refine k_bipush C 26 (v := 32) (by decide) dX9_sheet_24 rfl ?_
            refine k_icmp_eq C 36 29 dX9_sheet_26 (by decide) rfl (fun c26 => ?_) (fun d26 => ?_)
            · skip
              refine k_iload_n C 37 2 rfl rfl dX9_sheet_36 rfl ?_
              refine k_if_ne C 53 40 dX9_sheet_37 (by decide) rfl (fun c37 => ?_) (fun d37 => ?_)
              · skip
                refine k_iload_n C 54 3 rfl rfl dX9_sheet_53 rfl ?_
                refine k_if_ge C 64 57 dX9_sheet_54 (by decide) rfl (fun c54 => ?_) (fun d54 => ?_)
                · skip
                  have c54 := (nI_leI (by omega) (by omega)).mp (show nI 0 ≤ nI z from c54)
                  refine k_iload_n C 65 3 rfl rfl dX9_sheet_64 rfl ?_
                  refine k_bipush C 67 (v := 24) (by decide) dX9_sheet_65 rfl ?_
                  refine k_icmp_le C 77 70 dX9_sheet_67 (by decide) rfl (fun c67 => ?_) (fun d67 => ?_)
                  · skip
                    have c67 := (nI_leI (by omega) (by omega)).mp (show nI z ≤ nI 24 from c67)
                    exact absurd c67 (by omega)
                  · skip
                    have d67 := mt (nI_leI (by omega) (by omega)).mpr (show ¬ (nI z ≤ nI 24) from d67)
                    refine k_aload_n C 71 0 rfl rfl dX9_sheet_70 rfl ?_
                    refine k_ldc C 73 cwX9_87 dX9_sheet_71 rfl ?_
                    refine k_callVE C 76 (As := [.int (-1000000001)]) (st := []) 90 (by decide) (ce_90 g _) rfl rfl mwX9_88 vlX9_refuse (qX9_refuse l g M (-1000000001) (k := 1) (by decide) (by decide) (by decide)) mlX9_refuse (by decide) (by decide) rfl rfl (Nat.le_of_ble_eq_true rfl) dX9_sheet_73 rfl ?_
                    refine k_ret C rfl dX9_sheet_76 ?_
                    exact ⟨rfl, rfl⟩
                · skip
                  have d54 := mt (nI_leI (by omega) (by omega)).mpr (show ¬ (nI 0 ≤ nI z) from d54)
                  exact absurd d54 (by omega)
              · skip
                exact absurd d37 (by decide)
            · skip
              exact absurd d26 (by decide)
set_option maxHeartbeats 4000000 in
set_option maxRecDepth 20000 in
theorem qX9_sheet_t (l : Launch) (g : GT) (M : Mem) {s : Nat} (hs : s < 4) {b : Int32} (hb : (b = 8 ∨ b = 16 ∨ b = 32)) {z : Nat} (hz : z ≤ 24) : CtrE l g yX9_sheet cX9_sheet 4 (some .int) 2 [.ref (ga g 90), .int (nI s), .int b, .int (nI z)] M 1 (layM M s b (nI z)) := by
  refine ctrI_of (by decide +kernel) (Nat.le_of_ble_eq_true rfl) ?_
  intro pP eE RR sS mI aG bB mE cD C
  refine k_lo (lo' := [(0, .ref (ga g 90)), (1, .int (nI s)), (2, .int b), (3, .int (nI z))]) rfl ?_
  rcases hb with rfl | rfl | rfl
  · skip
    refine k_iload_n C 1 1 rfl rfl dX9_sheet_0 rfl ?_
    refine k_callSE C 4 (As := [.int (nI s)]) (st := []) mwX9_274 skX9_isSheet (qX9_isSheet l g M (nI s)) mlX9_isSheet (by decide) (by decide) rfl rfl (Nat.le_of_ble_eq_true rfl) dX9_sheet_1 rfl ?_
    refine k_if_eqB C 29 7 dX9_sheet_4 (by decide) rfl (fun c4 => ?_) (fun d4 => ?_)
    · skip
      exact (bz c4 (rg_lt (b := 4) hs (by decide))).elim
    · skip
      refine k_iload_n C 8 2 rfl rfl dX9_sheet_7 rfl ?_
      refine k_if_eq C 36 11 dX9_sheet_8 (by decide) rfl (fun c8 => ?_) (fun d8 => ?_)
      · skip
        exact absurd c8 (by decide)
      · skip
        refine k_iload_n C 12 2 rfl rfl dX9_sheet_11 rfl ?_
        refine k_bipush C 14 (v := 8) (by decide) dX9_sheet_12 rfl ?_
        refine k_icmp_eq C 36 17 dX9_sheet_14 (by decide) rfl (fun c14 => ?_) (fun d14 => ?_)
        · skip
          refine k_iload_n C 37 2 rfl rfl dX9_sheet_36 rfl ?_
          refine k_if_ne C 53 40 dX9_sheet_37 (by decide) rfl (fun c37 => ?_) (fun d37 => ?_)
          · skip
            refine k_iload_n C 54 3 rfl rfl dX9_sheet_53 rfl ?_
            refine k_if_ge C 64 57 dX9_sheet_54 (by decide) rfl (fun c54 => ?_) (fun d54 => ?_)
            · skip
              have c54 := (nI_leI (by omega) (by omega)).mp (show nI 0 ≤ nI z from c54)
              refine k_iload_n C 65 3 rfl rfl dX9_sheet_64 rfl ?_
              refine k_bipush C 67 (v := 24) (by decide) dX9_sheet_65 rfl ?_
              refine k_icmp_le C 77 70 dX9_sheet_67 (by decide) rfl (fun c67 => ?_) (fun d67 => ?_)
              · skip
                have c67 := (nI_leI (by omega) (by omega)).mp (show nI z ≤ nI 24 from c67)
                refine k_aload_n C 78 0 rfl rfl dX9_sheet_77 rfl ?_
                refine k_get C 81 flX9_68 90 (by decide) (v := .ref (ga g 80)) (ce_90 g _) rfl dX9_sheet_78 rfl ?_
                refine k_iload_n C 82 1 rfl rfl dX9_sheet_81 rfl ?_
                refine k_aald C 83 80 s 5 (by decide) (ce_80 g _) rfl (by decide) rfl (by omega) dX9_sheet_82 rfl ?_
                refine k_st (st' := [.ref (ga g (81 + s))]) rfl ?_
                refine k_iload_n C 84 2 rfl rfl dX9_sheet_83 rfl ?_
                refine k_iload_n C 85 3 rfl rfl dX9_sheet_84 rfl ?_
                refine k_callVU C 88 (As := [.int 8, .int (nI z)]) (st := []) (81 + s) (lt105_sh (by omega)) (ce_sh g _ (by omega)) rfl rfl mwX9_302 vlX5_lay (qX5_lay l g M (k := s) hs 8 (nI z)) mlX5_lay (by decide) (by decide) rfl rfl (Nat.le_of_ble_eq_true rfl) dX9_sheet_85 rfl ?_
                refine k_iconst C 89 (v := 1) (by decide) dX9_sheet_88 rfl ?_
                refine k_ret C rfl dX9_sheet_89 ?_
                exact ⟨rfl, rfl⟩
              · skip
                have d67 := mt (nI_leI (by omega) (by omega)).mpr (show ¬ (nI z ≤ nI 24) from d67)
                exact absurd d67 (by omega)
            · skip
              have d54 := mt (nI_leI (by omega) (by omega)).mpr (show ¬ (nI 0 ≤ nI z) from d54)
              exact absurd d54 (by omega)
          · skip
            exact absurd d37 (by decide)
        · skip
          exact absurd d14 (by decide)
  · skip
    refine k_iload_n C 1 1 rfl rfl dX9_sheet_0 rfl ?_
    refine k_callSE C 4 (As := [.int (nI s)]) (st := []) mwX9_274 skX9_isSheet (qX9_isSheet l g M (nI s)) mlX9_isSheet (by decide) (by decide) rfl rfl (Nat.le_of_ble_eq_true rfl) dX9_sheet_1 rfl ?_
    refine k_if_eqB C 29 7 dX9_sheet_4 (by decide) rfl (fun c4 => ?_) (fun d4 => ?_)
    · skip
      exact (bz c4 (rg_lt (b := 4) hs (by decide))).elim
    · skip
      refine k_iload_n C 8 2 rfl rfl dX9_sheet_7 rfl ?_
      refine k_if_eq C 36 11 dX9_sheet_8 (by decide) rfl (fun c8 => ?_) (fun d8 => ?_)
      · skip
        exact absurd c8 (by decide)
      · skip
        refine k_iload_n C 12 2 rfl rfl dX9_sheet_11 rfl ?_
        refine k_bipush C 14 (v := 8) (by decide) dX9_sheet_12 rfl ?_
        refine k_icmp_eq C 36 17 dX9_sheet_14 (by decide) rfl (fun c14 => ?_) (fun d14 => ?_)
        · skip
          exact absurd c14 (by decide)
        · skip
          refine k_iload_n C 18 2 rfl rfl dX9_sheet_17 rfl ?_
          refine k_bipush C 20 (v := 16) (by decide) dX9_sheet_18 rfl ?_
          refine k_icmp_eq C 36 23 dX9_sheet_20 (by decide) rfl (fun c20 => ?_) (fun d20 => ?_)
          · skip
            refine k_iload_n C 37 2 rfl rfl dX9_sheet_36 rfl ?_
            refine k_if_ne C 53 40 dX9_sheet_37 (by decide) rfl (fun c37 => ?_) (fun d37 => ?_)
            · skip
              refine k_iload_n C 54 3 rfl rfl dX9_sheet_53 rfl ?_
              refine k_if_ge C 64 57 dX9_sheet_54 (by decide) rfl (fun c54 => ?_) (fun d54 => ?_)
              · skip
                have c54 := (nI_leI (by omega) (by omega)).mp (show nI 0 ≤ nI z from c54)
                refine k_iload_n C 65 3 rfl rfl dX9_sheet_64 rfl ?_
                refine k_bipush C 67 (v := 24) (by decide) dX9_sheet_65 rfl ?_
                refine k_icmp_le C 77 70 dX9_sheet_67 (by decide) rfl (fun c67 => ?_) (fun d67 => ?_)
                · skip
                  have c67 := (nI_leI (by omega) (by omega)).mp (show nI z ≤ nI 24 from c67)
                  refine k_aload_n C 78 0 rfl rfl dX9_sheet_77 rfl ?_
                  refine k_get C 81 flX9_68 90 (by decide) (v := .ref (ga g 80)) (ce_90 g _) rfl dX9_sheet_78 rfl ?_
                  refine k_iload_n C 82 1 rfl rfl dX9_sheet_81 rfl ?_
                  refine k_aald C 83 80 s 5 (by decide) (ce_80 g _) rfl (by decide) rfl (by omega) dX9_sheet_82 rfl ?_
                  refine k_st (st' := [.ref (ga g (81 + s))]) rfl ?_
                  refine k_iload_n C 84 2 rfl rfl dX9_sheet_83 rfl ?_
                  refine k_iload_n C 85 3 rfl rfl dX9_sheet_84 rfl ?_
                  refine k_callVU C 88 (As := [.int 16, .int (nI z)]) (st := []) (81 + s) (lt105_sh (by omega)) (ce_sh g _ (by omega)) rfl rfl mwX9_302 vlX5_lay (qX5_lay l g M (k := s) hs 16 (nI z)) mlX5_lay (by decide) (by decide) rfl rfl (Nat.le_of_ble_eq_true rfl) dX9_sheet_85 rfl ?_
                  refine k_iconst C 89 (v := 1) (by decide) dX9_sheet_88 rfl ?_
                  refine k_ret C rfl dX9_sheet_89 ?_
                  exact ⟨rfl, rfl⟩
                · skip
                  have d67 := mt (nI_leI (by omega) (by omega)).mpr (show ¬ (nI z ≤ nI 24) from d67)
                  exact absurd d67 (by omega)
              · skip
                have d54 := mt (nI_leI (by omega) (by omega)).mpr (show ¬ (nI 0 ≤ nI z) from d54)
                exact absurd d54 (by omega)
            · skip
              exact absurd d37 (by decide)
          · skip
            exact absurd d20 (by decide)
  · skip
    refine k_iload_n C 1 1 rfl rfl dX9_sheet_0 rfl ?_
    refine k_callSE C 4 (As := [.int (nI s)]) (st := []) mwX9_274 skX9_isSheet (qX9_isSheet l g M (nI s)) mlX9_isSheet (by decide) (by decide) rfl rfl (Nat.le_of_ble_eq_true rfl) dX9_sheet_1 rfl ?_
    refine k_if_eqB C 29 7 dX9_sheet_4 (by decide) rfl (fun c4 => ?_) (fun d4 => ?_)
    · skip
      exact (bz c4 (rg_lt (b := 4) hs (by decide))).elim
    · skip
      refine k_iload_n C 8 2 rfl rfl dX9_sheet_7 rfl ?_
      refine k_if_eq C 36 11 dX9_sheet_8 (by decide) rfl (fun c8 => ?_) (fun d8 => ?_)
      · skip
        exact absurd c8 (by decide)
      · skip
        refine k_iload_n C 12 2 rfl rfl dX9_sheet_11 rfl ?_
        refine k_bipush C 14 (v := 8) (by decide) dX9_sheet_12 rfl ?_
        refine k_icmp_eq C 36 17 dX9_sheet_14 (by decide) rfl (fun c14 => ?_) (fun d14 => ?_)
        · skip
          exact absurd c14 (by decide)
        · skip
          refine k_iload_n C 18 2 rfl rfl dX9_sheet_17 rfl ?_
          refine k_bipush C 20 (v := 16) (by decide) dX9_sheet_18 rfl ?_
          refine k_icmp_eq C 36 23 dX9_sheet_20 (by decide) rfl (fun c20 => ?_) (fun d20 => ?_)
          · skip
            exact absurd c20 (by decide)
          · skip
            refine k_iload_n C 24 2 rfl rfl dX9_sheet_23 rfl ?_
            refine k_bipush C 26 (v := 32) (by decide) dX9_sheet_24 rfl ?_
            refine k_icmp_eq C 36 29 dX9_sheet_26 (by decide) rfl (fun c26 => ?_) (fun d26 => ?_)
            · skip
              refine k_iload_n C 37 2 rfl rfl dX9_sheet_36 rfl ?_
              refine k_if_ne C 53 40 dX9_sheet_37 (by decide) rfl (fun c37 => ?_) (fun d37 => ?_)
              · skip
                refine k_iload_n C 54 3 rfl rfl dX9_sheet_53 rfl ?_
                refine k_if_ge C 64 57 dX9_sheet_54 (by decide) rfl (fun c54 => ?_) (fun d54 => ?_)
                · skip
                  have c54 := (nI_leI (by omega) (by omega)).mp (show nI 0 ≤ nI z from c54)
                  refine k_iload_n C 65 3 rfl rfl dX9_sheet_64 rfl ?_
                  refine k_bipush C 67 (v := 24) (by decide) dX9_sheet_65 rfl ?_
                  refine k_icmp_le C 77 70 dX9_sheet_67 (by decide) rfl (fun c67 => ?_) (fun d67 => ?_)
                  · skip
                    have c67 := (nI_leI (by omega) (by omega)).mp (show nI z ≤ nI 24 from c67)
                    refine k_aload_n C 78 0 rfl rfl dX9_sheet_77 rfl ?_
                    refine k_get C 81 flX9_68 90 (by decide) (v := .ref (ga g 80)) (ce_90 g _) rfl dX9_sheet_78 rfl ?_
                    refine k_iload_n C 82 1 rfl rfl dX9_sheet_81 rfl ?_
                    refine k_aald C 83 80 s 5 (by decide) (ce_80 g _) rfl (by decide) rfl (by omega) dX9_sheet_82 rfl ?_
                    refine k_st (st' := [.ref (ga g (81 + s))]) rfl ?_
                    refine k_iload_n C 84 2 rfl rfl dX9_sheet_83 rfl ?_
                    refine k_iload_n C 85 3 rfl rfl dX9_sheet_84 rfl ?_
                    refine k_callVU C 88 (As := [.int 32, .int (nI z)]) (st := []) (81 + s) (lt105_sh (by omega)) (ce_sh g _ (by omega)) rfl rfl mwX9_302 vlX5_lay (qX5_lay l g M (k := s) hs 32 (nI z)) mlX5_lay (by decide) (by decide) rfl rfl (Nat.le_of_ble_eq_true rfl) dX9_sheet_85 rfl ?_
                    refine k_iconst C 89 (v := 1) (by decide) dX9_sheet_88 rfl ?_
                    refine k_ret C rfl dX9_sheet_89 ?_
                    exact ⟨rfl, rfl⟩
                  · skip
                    have d67 := mt (nI_leI (by omega) (by omega)).mpr (show ¬ (nI z ≤ nI 24) from d67)
                    exact absurd d67 (by omega)
                · skip
                  have d54 := mt (nI_leI (by omega) (by omega)).mpr (show ¬ (nI 0 ≤ nI z) from d54)
                  exact absurd d54 (by omega)
              · skip
                exact absurd d37 (by decide)
            · skip
              exact absurd d26 (by decide)
set_option maxHeartbeats 4000000 in
set_option maxRecDepth 20000 in
theorem qX9_sheet_0 (l : Launch) (g : GT) (M : Mem) {s : Nat} (hs : s < 4) (z : Int32) : CtrE l g yX9_sheet cX9_sheet 4 (some .int) 2 [.ref (ga g 90), .int (nI s), .int 0, .int z] M 1 (layM M s 0 0) := by
  refine ctrI_of (by decide +kernel) (Nat.le_of_ble_eq_true rfl) ?_
  intro pP eE RR sS mI aG bB mE cD C
  refine k_lo (lo' := [(0, .ref (ga g 90)), (1, .int (nI s)), (2, .int 0), (3, .int z)]) rfl ?_
  refine k_iload_n C 1 1 rfl rfl dX9_sheet_0 rfl ?_
  refine k_callSE C 4 (As := [.int (nI s)]) (st := []) mwX9_274 skX9_isSheet (qX9_isSheet l g M (nI s)) mlX9_isSheet (by decide) (by decide) rfl rfl (Nat.le_of_ble_eq_true rfl) dX9_sheet_1 rfl ?_
  refine k_if_eqB C 29 7 dX9_sheet_4 (by decide) rfl (fun c4 => ?_) (fun d4 => ?_)
  · skip
    exact (bz c4 (rg_lt (b := 4) hs (by decide))).elim
  · skip
    refine k_iload_n C 8 2 rfl rfl dX9_sheet_7 rfl ?_
    refine k_if_eq C 36 11 dX9_sheet_8 (by decide) rfl (fun c8 => ?_) (fun d8 => ?_)
    · skip
      refine k_iload_n C 37 2 rfl rfl dX9_sheet_36 rfl ?_
      refine k_if_ne C 53 40 dX9_sheet_37 (by decide) rfl (fun c37 => ?_) (fun d37 => ?_)
      · skip
        exact absurd c37 (by decide)
      · skip
        refine k_aload_n C 41 0 rfl rfl dX9_sheet_40 rfl ?_
        refine k_get C 44 flX9_68 90 (by decide) (v := .ref (ga g 80)) (ce_90 g _) rfl dX9_sheet_41 rfl ?_
        refine k_iload_n C 45 1 rfl rfl dX9_sheet_44 rfl ?_
        refine k_aald C 46 80 s 5 (by decide) (ce_80 g _) rfl (by decide) rfl (by omega) dX9_sheet_45 rfl ?_
        refine k_st (st' := [.ref (ga g (81 + s))]) rfl ?_
        refine k_iconst C 47 (v := 0) (by decide) dX9_sheet_46 rfl ?_
        refine k_iconst C 48 (v := 0) (by decide) dX9_sheet_47 rfl ?_
        refine k_callVU C 51 (As := [.int 0, .int 0]) (st := []) (81 + s) (lt105_sh (by omega)) (ce_sh g _ (by omega)) rfl rfl mwX9_302 vlX5_lay (qX5_lay l g M (k := s) hs 0 0) mlX5_lay (by decide) (by decide) rfl rfl (Nat.le_of_ble_eq_true rfl) dX9_sheet_48 rfl ?_
        refine k_iconst C 52 (v := 1) (by decide) dX9_sheet_51 rfl ?_
        refine k_ret C rfl dX9_sheet_52 ?_
        exact ⟨rfl, rfl⟩
    · skip
      exact absurd d8 (by decide)
set_option maxHeartbeats 4000000 in
set_option maxRecDepth 20000 in
theorem qX9_put_f (l : Launch) (g : GT) (M : Mem) (s : Int32) (p x : Int32) (hf : (decide (0 ≤ s) && decide (s < 4)) = false) : CtrE l g yX9_put cX9_put 5 (some .int) 2 [.ref (ga g 90), .int s, .int p, .int x] M (-1000000001) (mu M 89 1 (M 89 1 + 1)) := by
  refine ctrI_of (by decide +kernel) (Nat.le_of_ble_eq_true rfl) ?_
  intro pP eE RR sS mI aG bB mE cD C
  refine k_lo (lo' := [(0, .ref (ga g 90)), (1, .int s), (2, .int p), (3, .int x)]) rfl ?_
  refine k_iload_n C 1 1 rfl rfl dX9_put_0 rfl ?_
  refine k_callSE C 4 (As := [.int s]) (st := []) mwX9_274 skX9_isSheet (qX9_isSheet l g M s) mlX9_isSheet (by decide) (by decide) rfl rfl (Nat.le_of_ble_eq_true rfl) dX9_put_1 rfl ?_
  refine k_if_neB C 14 7 dX9_put_4 (by decide) rfl (fun c4 => ?_) (fun d4 => ?_)
  · skip
    exact (bz hf c4).elim
  · skip
    refine k_aload_n C 8 0 rfl rfl dX9_put_7 rfl ?_
    refine k_ldc C 10 cwX9_87 dX9_put_8 rfl ?_
    refine k_callVE C 13 (As := [.int (-1000000001)]) (st := []) 90 (by decide) (ce_90 g _) rfl rfl mwX9_88 vlX9_refuse (qX9_refuse l g M (-1000000001) (k := 1) (by decide) (by decide) (by decide)) mlX9_refuse (by decide) (by decide) rfl rfl (Nat.le_of_ble_eq_true rfl) dX9_put_10 rfl ?_
    refine k_ret C rfl dX9_put_13 ?_
    exact ⟨rfl, rfl⟩
set_option maxHeartbeats 4000000 in
set_option maxRecDepth 20000 in
theorem qX9_put_0 (l : Launch) (g : GT) (M : Mem) {s : Nat} (hs : s < 4) (p x : Int32) (h : M (81 + s) 1 = 0) : CtrE l g yX9_put cX9_put 5 (some .int) 2 [.ref (ga g 90), .int (nI s), .int p, .int x] M (-1000000002) (mu M 89 2 (M 89 2 + 1)) := by
  refine ctrI_of (by decide +kernel) (Nat.le_of_ble_eq_true rfl) ?_
  intro pP eE RR sS mI aG bB mE cD C
  refine k_lo (lo' := [(0, .ref (ga g 90)), (1, .int (nI s)), (2, .int p), (3, .int x)]) rfl ?_
  refine k_iload_n C 1 1 rfl rfl dX9_put_0 rfl ?_
  refine k_callSE C 4 (As := [.int (nI s)]) (st := []) mwX9_274 skX9_isSheet (qX9_isSheet l g M (nI s)) mlX9_isSheet (by decide) (by decide) rfl rfl (Nat.le_of_ble_eq_true rfl) dX9_put_1 rfl ?_
  refine k_if_neB C 14 7 dX9_put_4 (by decide) rfl (fun c4 => ?_) (fun d4 => ?_)
  · skip
    refine k_aload_n C 15 0 rfl rfl dX9_put_14 rfl ?_
    refine k_get C 18 flX9_68 90 (by decide) (v := .ref (ga g 80)) (ce_90 g _) rfl dX9_put_15 rfl ?_
    refine k_iload_n C 19 1 rfl rfl dX9_put_18 rfl ?_
    refine k_aald C 20 80 s 5 (by decide) (ce_80 g _) rfl (by decide) rfl (by omega) dX9_put_19 rfl ?_
    refine k_st (st' := [.ref (ga g (81 + s))]) rfl ?_
    refine k_astore C 22 [(4, .ref (ga g (81 + s))), (0, .ref (ga g 90)), (1, .int (nI s)), (2, .int p), (3, .int x)]  (by decide) rfl dX9_put_20 rfl ?_
    refine k_aload C 24 0  rfl dX9_put_22 rfl ?_
    refine k_callVE C 27 (As := []) (st := []) (81 + s) (lt105_sh (by omega)) (ce_sh g _ (by omega)) rfl rfl mwX9_277 vlX5_isMissing (qX5_isMissing l g M (by omega)) mlX5_isMissing (by decide) (by decide) rfl rfl (Nat.le_of_ble_eq_true rfl) dX9_put_24 rfl ?_
    refine k_if_eqB C 38 30 dX9_put_27 (by decide) rfl (fun c27 => ?_) (fun d27 => ?_)
    · skip
      exact absurd h (of_decide_eq_false c27)
    · skip
      refine k_aload_n C 31 1 rfl rfl dX9_put_30 rfl ?_
      refine k_ldcw C 34 cwX9_280 dX9_put_31 rfl ?_
      refine k_callVE C 37 (As := [.int (-1000000002)]) (st := []) 90 (by decide) (ce_90 g _) rfl rfl mwX9_88 vlX9_refuse (qX9_refuse l g M (-1000000002) (k := 2) (by decide) (by decide) (by decide)) mlX9_refuse (by decide) (by decide) rfl rfl (Nat.le_of_ble_eq_true rfl) dX9_put_34 rfl ?_
      refine k_ret C rfl dX9_put_37 ?_
      exact ⟨rfl, rfl⟩
  · skip
    exact (bz d4 (rg_lt (b := 4) hs (by decide))).elim
set_option maxHeartbeats 4000000 in
set_option maxRecDepth 20000 in
theorem qX9_put_i (l : Launch) (g : GT) (M : Mem) {s : Nat} (hs : s < 4) (p x : Int32) (h : ¬ M (81 + s) 1 = 0) {z : Nat} (hz : M (81 + s) 2 = nI z) (h24 : z ≤ 24) (hf : pIsF z p = false) : CtrE l g yX9_put cX9_put 5 (some .int) 2 [.ref (ga g 90), .int (nI s), .int p, .int x] M (-1000000001) (mu M 89 1 (M 89 1 + 1)) := by
  refine ctrI_of (by decide +kernel) (Nat.le_of_ble_eq_true rfl) ?_
  intro pP eE RR sS mI aG bB mE cD C
  refine k_lo (lo' := [(0, .ref (ga g 90)), (1, .int (nI s)), (2, .int p), (3, .int x)]) rfl ?_
  refine k_iload_n C 1 1 rfl rfl dX9_put_0 rfl ?_
  refine k_callSE C 4 (As := [.int (nI s)]) (st := []) mwX9_274 skX9_isSheet (qX9_isSheet l g M (nI s)) mlX9_isSheet (by decide) (by decide) rfl rfl (Nat.le_of_ble_eq_true rfl) dX9_put_1 rfl ?_
  refine k_if_neB C 14 7 dX9_put_4 (by decide) rfl (fun c4 => ?_) (fun d4 => ?_)
  · skip
    refine k_aload_n C 15 0 rfl rfl dX9_put_14 rfl ?_
    refine k_get C 18 flX9_68 90 (by decide) (v := .ref (ga g 80)) (ce_90 g _) rfl dX9_put_15 rfl ?_
    refine k_iload_n C 19 1 rfl rfl dX9_put_18 rfl ?_
    refine k_aald C 20 80 s 5 (by decide) (ce_80 g _) rfl (by decide) rfl (by omega) dX9_put_19 rfl ?_
    refine k_st (st' := [.ref (ga g (81 + s))]) rfl ?_
    refine k_astore C 22 [(4, .ref (ga g (81 + s))), (0, .ref (ga g 90)), (1, .int (nI s)), (2, .int p), (3, .int x)]  (by decide) rfl dX9_put_20 rfl ?_
    refine k_aload C 24 0  rfl dX9_put_22 rfl ?_
    refine k_callVE C 27 (As := []) (st := []) (81 + s) (lt105_sh (by omega)) (ce_sh g _ (by omega)) rfl rfl mwX9_277 vlX5_isMissing (qX5_isMissing l g M (by omega)) mlX5_isMissing (by decide) (by decide) rfl rfl (Nat.le_of_ble_eq_true rfl) dX9_put_24 rfl ?_
    refine k_if_eqB C 38 30 dX9_put_27 (by decide) rfl (fun c27 => ?_) (fun d27 => ?_)
    · skip
      refine k_iload_n C 39 3 rfl rfl dX9_put_38 rfl ?_
      refine k_if_lt C 51 42 dX9_put_39 (by decide) rfl (fun c39 => ?_) (fun d39 => ?_)
      · skip
        refine k_aload_n C 52 1 rfl rfl dX9_put_51 rfl ?_
        refine k_ldc C 54 cwX9_87 dX9_put_52 rfl ?_
        refine k_callVE C 57 (As := [.int (-1000000001)]) (st := []) 90 (by decide) (ce_90 g _) rfl rfl mwX9_88 vlX9_refuse (qX9_refuse l g M (-1000000001) (k := 1) (by decide) (by decide) (by decide)) mlX9_refuse (by decide) (by decide) rfl rfl (Nat.le_of_ble_eq_true rfl) dX9_put_54 rfl ?_
        refine k_ret C rfl dX9_put_57 ?_
        exact ⟨rfl, rfl⟩
      · skip
        refine k_iload_n C 43 3 rfl rfl dX9_put_42 rfl ?_
        refine k_aload C 45 0  rfl dX9_put_43 rfl ?_
        refine k_get C 48 flX9_306 (81 + s) (lt105_sh (by omega)) (v := .int ((M) (81 + s) 2)) (ce_sh g _ (by omega)) rfl dX9_put_45 rfl ?_
        refine k_teq (y := nI z) hz ?_
        refine k_icmp_lt C 58 51 dX9_put_48 (by decide) rfl (fun c48 => ?_) (fun d48 => ?_)
        · skip
          exact (bz hf (by unfold pIsF; rw [decide_eq_true (Int32.not_lt.mp d39), decide_eq_true c48]; rfl)).elim
        · skip
          refine k_aload_n C 52 1 rfl rfl dX9_put_51 rfl ?_
          refine k_ldc C 54 cwX9_87 dX9_put_52 rfl ?_
          refine k_callVE C 57 (As := [.int (-1000000001)]) (st := []) 90 (by decide) (ce_90 g _) rfl rfl mwX9_88 vlX9_refuse (qX9_refuse l g M (-1000000001) (k := 1) (by decide) (by decide) (by decide)) mlX9_refuse (by decide) (by decide) rfl rfl (Nat.le_of_ble_eq_true rfl) dX9_put_54 rfl ?_
          refine k_ret C rfl dX9_put_57 ?_
          exact ⟨rfl, rfl⟩
    · skip
      exact absurd (of_decide_eq_true d27) h
  · skip
    exact (bz d4 (rg_lt (b := 4) hs (by decide))).elim
set_option maxHeartbeats 4000000 in
set_option maxRecDepth 20000 in
theorem qX9_put_t (l : Launch) (g : GT) (M : Mem) {s : Nat} (hs : s < 4) {p : Nat} (x : Int32) (h : ¬ M (81 + s) 1 = 0) {z : Nat} (hz : M (81 + s) 2 = nI z) (h24 : z ≤ 24) (hp : p < z) : CtrE l g yX9_put cX9_put 5 (some .int) 2 [.ref (ga g 90), .int (nI s), .int (nI p), .int x] M 1 (mu M (85 + s) p (pCut (M (81 + s) 1) x)) := by
  refine ctrI_of (by decide +kernel) (Nat.le_of_ble_eq_true rfl) ?_
  intro pP eE RR sS mI aG bB mE cD C
  refine k_lo (lo' := [(0, .ref (ga g 90)), (1, .int (nI s)), (2, .int (nI p)), (3, .int x)]) rfl ?_
  refine k_iload_n C 1 1 rfl rfl dX9_put_0 rfl ?_
  refine k_callSE C 4 (As := [.int (nI s)]) (st := []) mwX9_274 skX9_isSheet (qX9_isSheet l g M (nI s)) mlX9_isSheet (by decide) (by decide) rfl rfl (Nat.le_of_ble_eq_true rfl) dX9_put_1 rfl ?_
  refine k_if_neB C 14 7 dX9_put_4 (by decide) rfl (fun c4 => ?_) (fun d4 => ?_)
  · skip
    refine k_aload_n C 15 0 rfl rfl dX9_put_14 rfl ?_
    refine k_get C 18 flX9_68 90 (by decide) (v := .ref (ga g 80)) (ce_90 g _) rfl dX9_put_15 rfl ?_
    refine k_iload_n C 19 1 rfl rfl dX9_put_18 rfl ?_
    refine k_aald C 20 80 s 5 (by decide) (ce_80 g _) rfl (by decide) rfl (by omega) dX9_put_19 rfl ?_
    refine k_st (st' := [.ref (ga g (81 + s))]) rfl ?_
    refine k_astore C 22 [(4, .ref (ga g (81 + s))), (0, .ref (ga g 90)), (1, .int (nI s)), (2, .int (nI p)), (3, .int x)]  (by decide) rfl dX9_put_20 rfl ?_
    refine k_aload C 24 0  rfl dX9_put_22 rfl ?_
    refine k_callVE C 27 (As := []) (st := []) (81 + s) (lt105_sh (by omega)) (ce_sh g _ (by omega)) rfl rfl mwX9_277 vlX5_isMissing (qX5_isMissing l g M (by omega)) mlX5_isMissing (by decide) (by decide) rfl rfl (Nat.le_of_ble_eq_true rfl) dX9_put_24 rfl ?_
    refine k_if_eqB C 38 30 dX9_put_27 (by decide) rfl (fun c27 => ?_) (fun d27 => ?_)
    · skip
      refine k_iload_n C 39 3 rfl rfl dX9_put_38 rfl ?_
      refine k_if_lt C 51 42 dX9_put_39 (by decide) rfl (fun c39 => ?_) (fun d39 => ?_)
      · skip
        have c39 := (nI_ltI (by omega) (by omega)).mp (show nI p < nI 0 from c39)
        exact absurd c39 (by omega)
      · skip
        have d39 := mt (nI_ltI (by omega) (by omega)).mpr (show ¬ (nI p < nI 0) from d39)
        refine k_iload_n C 43 3 rfl rfl dX9_put_42 rfl ?_
        refine k_aload C 45 0  rfl dX9_put_43 rfl ?_
        refine k_get C 48 flX9_306 (81 + s) (lt105_sh (by omega)) (v := .int ((M) (81 + s) 2)) (ce_sh g _ (by omega)) rfl dX9_put_45 rfl ?_
        refine k_teq (y := nI z) hz ?_
        refine k_icmp_lt C 58 51 dX9_put_48 (by decide) rfl (fun c48 => ?_) (fun d48 => ?_)
        · skip
          have c48 := (nI_ltI (by omega) (by omega)).mp (show nI p < nI z from c48)
          refine k_aload C 60 0  rfl dX9_put_58 rfl ?_
          refine k_iload_n C 61 3 rfl rfl dX9_put_60 rfl ?_
          refine k_iload_n C 62 4 rfl rfl dX9_put_61 rfl ?_
          refine k_callVU C 65 (As := [.int (nI p), .int x]) (st := []) (81 + s) (lt105_sh (by omega)) (ce_sh g _ (by omega)) rfl rfl mwX9_307 vlX5_write (qX5_write l g M (k := s) hs (i := p) (by omega) x) mlX5_write (by decide) (by decide) rfl rfl (Nat.le_of_ble_eq_true rfl) dX9_put_62 rfl ?_
          refine k_iconst C 66 (v := 1) (by decide) dX9_put_65 rfl ?_
          refine k_ret C rfl dX9_put_66 ?_
          exact ⟨rfl, rfl⟩
        · skip
          have d48 := mt (nI_ltI (by omega) (by omega)).mpr (show ¬ (nI p < nI z) from d48)
          exact absurd d48 (by omega)
    · skip
      exact absurd (of_decide_eq_true d27) h
  · skip
    exact (bz d4 (rg_lt (b := 4) hs (by decide))).elim
set_option maxHeartbeats 4000000 in
set_option maxRecDepth 20000 in
theorem qX9_lines_f (l : Launch) (g : GT) (M : Mem) (s : Int32) (hf : (decide (0 ≤ s) && decide (s < 4)) = false) : CtrE l g yX9_lines cX9_lines 5 (some .int) 2 [.ref (ga g 90), .int s] M (-1000000001) (mu M 89 1 (M 89 1 + 1)) := by
  refine ctrI_of (by decide +kernel) (Nat.le_of_ble_eq_true rfl) ?_
  intro pP eE RR sS mI aG bB mE cD C
  refine k_lo (lo' := [(0, .ref (ga g 90)), (1, .int s)]) rfl ?_
  refine k_iload_n C 1 1 rfl rfl dX9_lines_0 rfl ?_
  refine k_callSE C 4 (As := [.int s]) (st := []) mwX9_274 skX9_isSheet (qX9_isSheet l g M s) mlX9_isSheet (by decide) (by decide) rfl rfl (Nat.le_of_ble_eq_true rfl) dX9_lines_1 rfl ?_
  refine k_if_neB C 14 7 dX9_lines_4 (by decide) rfl (fun c4 => ?_) (fun d4 => ?_)
  · skip
    exact (bz hf c4).elim
  · skip
    refine k_aload_n C 8 0 rfl rfl dX9_lines_7 rfl ?_
    refine k_ldc C 10 cwX9_87 dX9_lines_8 rfl ?_
    refine k_callVE C 13 (As := [.int (-1000000001)]) (st := []) 90 (by decide) (ce_90 g _) rfl rfl mwX9_88 vlX9_refuse (qX9_refuse l g M (-1000000001) (k := 1) (by decide) (by decide) (by decide)) mlX9_refuse (by decide) (by decide) rfl rfl (Nat.le_of_ble_eq_true rfl) dX9_lines_10 rfl ?_
    refine k_ret C rfl dX9_lines_13 ?_
    exact ⟨rfl, rfl⟩
set_option maxHeartbeats 4000000 in
set_option maxRecDepth 20000 in
theorem qX9_lines_0 (l : Launch) (g : GT) (M : Mem) {s : Nat} (hs : s < 4) (h : M (81 + s) 1 = 0) : CtrE l g yX9_lines cX9_lines 5 (some .int) 2 [.ref (ga g 90), .int (nI s)] M (-1000000002) (mu M 89 2 (M 89 2 + 1)) := by
  refine ctrI_of (by decide +kernel) (Nat.le_of_ble_eq_true rfl) ?_
  intro pP eE RR sS mI aG bB mE cD C
  refine k_lo (lo' := [(0, .ref (ga g 90)), (1, .int (nI s))]) rfl ?_
  refine k_iload_n C 1 1 rfl rfl dX9_lines_0 rfl ?_
  refine k_callSE C 4 (As := [.int (nI s)]) (st := []) mwX9_274 skX9_isSheet (qX9_isSheet l g M (nI s)) mlX9_isSheet (by decide) (by decide) rfl rfl (Nat.le_of_ble_eq_true rfl) dX9_lines_1 rfl ?_
  refine k_if_neB C 14 7 dX9_lines_4 (by decide) rfl (fun c4 => ?_) (fun d4 => ?_)
  · skip
    refine k_aload_n C 15 0 rfl rfl dX9_lines_14 rfl ?_
    refine k_get C 18 flX9_68 90 (by decide) (v := .ref (ga g 80)) (ce_90 g _) rfl dX9_lines_15 rfl ?_
    refine k_iload_n C 19 1 rfl rfl dX9_lines_18 rfl ?_
    refine k_aald C 20 80 s 5 (by decide) (ce_80 g _) rfl (by decide) rfl (by omega) dX9_lines_19 rfl ?_
    refine k_st (st' := [.ref (ga g (81 + s))]) rfl ?_
    refine k_astore_n C 21 [(2, .ref (ga g (81 + s))), (0, .ref (ga g 90)), (1, .int (nI s))] rfl (by decide) rfl dX9_lines_20 rfl ?_
    refine k_aload_n C 22 0 rfl rfl dX9_lines_21 rfl ?_
    refine k_callVE C 25 (As := []) (st := []) (81 + s) (lt105_sh (by omega)) (ce_sh g _ (by omega)) rfl rfl mwX9_277 vlX5_isMissing (qX5_isMissing l g M (by omega)) mlX5_isMissing (by decide) (by decide) rfl rfl (Nat.le_of_ble_eq_true rfl) dX9_lines_22 rfl ?_
    refine k_if_eqB C 36 28 dX9_lines_25 (by decide) rfl (fun c25 => ?_) (fun d25 => ?_)
    · skip
      exact absurd h (of_decide_eq_false c25)
    · skip
      refine k_aload_n C 29 1 rfl rfl dX9_lines_28 rfl ?_
      refine k_ldcw C 32 cwX9_280 dX9_lines_29 rfl ?_
      refine k_callVE C 35 (As := [.int (-1000000002)]) (st := []) 90 (by decide) (ce_90 g _) rfl rfl mwX9_88 vlX9_refuse (qX9_refuse l g M (-1000000002) (k := 2) (by decide) (by decide) (by decide)) mlX9_refuse (by decide) (by decide) rfl rfl (Nat.le_of_ble_eq_true rfl) dX9_lines_32 rfl ?_
      refine k_ret C rfl dX9_lines_35 ?_
      exact ⟨rfl, rfl⟩
  · skip
    exact (bz d4 (rg_lt (b := 4) hs (by decide))).elim
set_option maxHeartbeats 4000000 in
set_option maxRecDepth 20000 in
theorem qX9_lines_t (l : Launch) (g : GT) (M : Mem) {n : Nat} (hn : M 37 1 = nI n) (h12 : n ≤ 12) {s : Nat} (hs : s < 4) (h : ¬ M (81 + s) 1 = 0) {z : Nat} (hz : M (81 + s) 2 = nI z) (h24 : z ≤ 24)  : CtrE l g yX9_lines cX9_lines 5 (some .int) 2 [.ref (ga g 90), .int (nI s)] M (nI (lnK (M (85 + s)) (min z n) 0)) (lnC M (M (85 + s)) (lnK (M (85 + s)) (min z n) 0)) := by
  refine ctrI_of (by decide +kernel) (Nat.le_of_ble_eq_true rfl) ?_
  intro pP eE RR sS mI aG bB mE cD C
  refine k_lo (lo' := [(0, .ref (ga g 90)), (1, .int (nI s))]) rfl ?_
  refine k_iload_n C 1 1 rfl rfl dX9_lines_0 rfl ?_
  refine k_callSE C 4 (As := [.int (nI s)]) (st := []) mwX9_274 skX9_isSheet (qX9_isSheet l g M (nI s)) mlX9_isSheet (by decide) (by decide) rfl rfl (Nat.le_of_ble_eq_true rfl) dX9_lines_1 rfl ?_
  refine k_if_neB C 14 7 dX9_lines_4 (by decide) rfl (fun c4 => ?_) (fun d4 => ?_)
  · skip
    refine k_aload_n C 15 0 rfl rfl dX9_lines_14 rfl ?_
    refine k_get C 18 flX9_68 90 (by decide) (v := .ref (ga g 80)) (ce_90 g _) rfl dX9_lines_15 rfl ?_
    refine k_iload_n C 19 1 rfl rfl dX9_lines_18 rfl ?_
    refine k_aald C 20 80 s 5 (by decide) (ce_80 g _) rfl (by decide) rfl (by omega) dX9_lines_19 rfl ?_
    refine k_st (st' := [.ref (ga g (81 + s))]) rfl ?_
    refine k_astore_n C 21 [(2, .ref (ga g (81 + s))), (0, .ref (ga g 90)), (1, .int (nI s))] rfl (by decide) rfl dX9_lines_20 rfl ?_
    refine k_aload_n C 22 0 rfl rfl dX9_lines_21 rfl ?_
    refine k_callVE C 25 (As := []) (st := []) (81 + s) (lt105_sh (by omega)) (ce_sh g _ (by omega)) rfl rfl mwX9_277 vlX5_isMissing (qX5_isMissing l g M (by omega)) mlX5_isMissing (by decide) (by decide) rfl rfl (Nat.le_of_ble_eq_true rfl) dX9_lines_22 rfl ?_
    refine k_if_eqB C 36 28 dX9_lines_25 (by decide) rfl (fun c25 => ?_) (fun d25 => ?_)
    · skip
      refine k_aload_n C 37 0 rfl rfl dX9_lines_36 rfl ?_
      refine k_get C 40 flX9_306 (81 + s) (lt105_sh (by omega)) (v := .int ((M) (81 + s) 2)) (ce_sh g _ (by omega)) rfl dX9_lines_37 rfl ?_
      refine k_teq (y := nI z) hz ?_
      refine k_aload_n C 41 1 rfl rfl dX9_lines_40 rfl ?_
      refine k_get C 44 flX9_12 90 (by decide) (v := .ref (ga g 43)) (ce_90 g _) rfl dX9_lines_41 rfl ?_
      refine k_get C 47 flX9_92 43 (by decide) (v := .ref (ga g 37)) (ce_wld g _ (show 0 < 2 by decide)) rfl dX9_lines_44 rfl ?_
      refine k_get C 50 flX9_95 37 (by decide) (v := .int ((M) 37 1)) (ce_fld g _ (show 0 < 3 by decide)) rfl dX9_lines_47 rfl ?_
      refine k_teq (y := nI n) hn ?_
      refine k_mmin C 53 mwX9_325 (Nat.le_of_ble_eq_true rfl) dX9_lines_50 rfl ?_
      refine k_teq (nI_min (a := z) (b := n) (by omega) (by omega)) ?_
      refine k_istore_n C 54 [(3, .int (nI (min z n))), (2, .ref (ga g (81 + s))), (0, .ref (ga g 90)), (1, .int (nI s))] rfl (by decide) rfl dX9_lines_53 rfl ?_
      refine k_iconst C 55 (v := 0) (by decide) dX9_lines_54 rfl ?_
      refine k_istore C 57 [(4, .int 0), (3, .int (nI (min z n))), (2, .ref (ga g (81 + s))), (0, .ref (ga g 90)), (1, .int (nI s))]  (by decide) rfl dX9_lines_55 rfl ?_
      refine k_sub [(0, .ref (ga g 90)), (2, .ref (ga g (81 + s))), (3, .int (nI (min z n))), (4, .int 0)] [3, 2, 1, 0] rfl ?_
      refine k_all (M' := lnC M (M (85 + s)) 0) (lo' := [(0, .ref (ga g 90)), (2, .ref (ga g (81 + s))), (3, .int (nI (min z n))), (4, .int (nI 0))]) (st' := []) (by rfl) (by rfl) rfl ?_
      refine k_loop (σ := Nat) (fun (i : Nat) => (i ≤ min z n) ∧ (lnK (M (85 + s)) (min z n) 0 = lnK (M (85 + s)) (min z n - i) i)) (fun (i : Nat) => min z n - i) (fun (i : Nat) => lnC M (M (85 + s)) i) (fun (i : Nat) => [(0, .ref (ga g 90)), (2, .ref (ga g (81 + s))), (3, .int (nI (min z n))), (4, .int (nI i))]) 0 (show (0 ≤ min z n) ∧ (lnK (M (85 + s)) (min z n) 0 = lnK (M (85 + s)) (min z n - 0) 0) from by exact ⟨Nat.zero_le _, rfl⟩) ?_
      rintro i hI ih
      have hI : (i ≤ min z n) ∧ (lnK (M (85 + s)) (min z n) 0 = lnK (M (85 + s)) (min z n - i) i) := hI
      obtain ⟨hi, he⟩ := hI
      show KW pP l eE RR sS mI aG bB mE cD g 5 _ (lnC M (M (85 + s)) i) 57 [(0, .ref (ga g 90)), (2, .ref (ga g (81 + s))), (3, .int (nI (min z n))), (4, .int (nI i))] []
      refine k_iload C 59 3  rfl dX9_lines_57 rfl ?_
      refine k_iload_n C 60 2 rfl rfl dX9_lines_59 rfl ?_
      refine k_icmp_ge C 105 63 dX9_lines_60 (by decide) rfl (fun c60 => ?_) (fun d60 => ?_)
      · skip
        have c60 := (nI_leI (by omega) (by omega)).mp (show nI (min z n) ≤ nI i from c60)
        refine k_iload C 107 3  rfl dX9_lines_105 rfl ?_
        refine k_ret C rfl dX9_lines_107 ?_
        have e : lnK (M (85 + s)) (min z n) 0 = i := by
          rw [he]
          rw [show min z n - i = 0 by omega]; rfl
        rw [e]; exact ⟨rfl, rfl⟩
      · skip
        have d60 := mt (nI_leI (by omega) (by omega)).mpr (show ¬ (nI (min z n) ≤ nI i) from d60)
        refine k_aload_n C 64 1 rfl rfl dX9_lines_63 rfl ?_
        refine k_get C 67 flX9_316 (81 + s) (lt105_sh hs) (v := .ref (ga g (85 + s))) (ce_sh g _ hs) rfl dX9_lines_64 rfl ?_
        refine k_iload C 69 3  rfl dX9_lines_67 rfl ?_
        refine k_iald C 70 (85 + s) i (lt105_sn hs) (ce_sn g hs) (by decide) rfl (by omega) dX9_lines_69 rfl ?_
        refine k_teq (y := M (85 + s) i) (by rw [lnC_o _ _ _ (by omega)]) ?_
        refine k_callSE C 73 (As := [.int (M (85 + s) i)]) (st := []) mwX9_81 skX9_isLine (qX9_isLine l g (lnC M (M (85 + s)) i) (M (85 + s) i)) mlX9_isLine (by decide) (by decide) rfl rfl (Nat.le_of_ble_eq_true rfl) dX9_lines_70 rfl ?_
        refine k_if_eqB C 105 76 dX9_lines_73 (by decide) rfl (fun c73 => ?_) (fun d73 => ?_)
        · skip
          refine k_iload C 107 3  rfl dX9_lines_105 rfl ?_
          refine k_ret C rfl dX9_lines_107 ?_
          have e : lnK (M (85 + s)) (min z n) 0 = i := by
            rw [he]
            rw [show min z n - i = (min z n - (i + 1)) + 1 by omega]; simp only [lnK]; rw [if_neg (by rw [show pLine _ = false from c73]; decide)]
          rw [e]; exact ⟨rfl, rfl⟩
        · skip
          refine k_aload_n C 77 0 rfl rfl dX9_lines_76 rfl ?_
          refine k_get C 80 flX9_12 90 (by decide) (v := .ref (ga g 43)) (ce_90 g _) rfl dX9_lines_77 rfl ?_
          refine k_get C 83 flX9_92 43 (by decide) (v := .ref (ga g 37)) (ce_wld g _ (show 0 < 2 by decide)) rfl dX9_lines_80 rfl ?_
          refine k_get C 86 flX9_107 37 (by decide) (v := .ref (ga g 40)) (ce_fld g _ (show 0 < 3 by decide)) rfl dX9_lines_83 rfl ?_
          refine k_iload C 88 3  rfl dX9_lines_86 rfl ?_
          refine k_aald C 89 40 i 3 (by decide) (ce_fa g _ (show 0 < 3 by decide)) rfl (by decide) rfl (by omega) dX9_lines_88 rfl ?_
          refine k_st (st' := [.ref (ga g i)]) (by simp only [Nat.mul_zero, Nat.zero_add]) ?_
          refine k_aload_n C 90 1 rfl rfl dX9_lines_89 rfl ?_
          refine k_get C 93 flX9_316 (81 + s) (lt105_sh hs) (v := .ref (ga g (85 + s))) (ce_sh g _ hs) rfl dX9_lines_90 rfl ?_
          refine k_iload C 95 3  rfl dX9_lines_93 rfl ?_
          refine k_iald C 96 (85 + s) i (lt105_sn hs) (ce_sn g hs) (by decide) rfl (by omega) dX9_lines_95 rfl ?_
          refine k_teq (y := M (85 + s) i) (by rw [lnC_o _ _ _ (by omega)]) ?_
          refine k_callVU C 99 (As := [.int (M (85 + s) i)]) (st := []) i (lt105_fu (by omega)) (ce_fu g _ (by omega)) rfl rfl mwX9_165 vlX2_setLine (qX2_setLine l g (lnC M (M (85 + s)) i) (by omega) (M (85 + s) i)) mlX2_setLine (by decide) (by decide) rfl rfl (Nat.le_of_ble_eq_true rfl) dX9_lines_96 rfl ?_
          refine k_iinc C 102 (nI (i + 1)) 3 [(4, .int (nI (i + 1))), (0, .ref (ga g 90)), (2, .ref (ga g (81 + s))), (3, .int (nI (min z n)))] rfl (iinc_p i) (by decide) rfl dX9_lines_99 rfl ?_
          refine k_goto C 57 dX9_lines_102 (by decide) ?_
          refine k_sub [(0, .ref (ga g 90)), (2, .ref (ga g (81 + s))), (3, .int (nI (min z n))), (4, .int (nI (i + 1)))] [1, 2, 3, 0] rfl ?_
          refine k_all (M' := lnC M (M (85 + s)) (i + 1)) (lo' := [(0, .ref (ga g 90)), (2, .ref (ga g (81 + s))), (3, .int (nI (min z n))), (4, .int (nI (i + 1)))]) (st' := []) (by rfl) (by rfl) rfl ?_
          exact ih (i + 1) (show ((i + 1) ≤ min z n) ∧ (lnK (M (85 + s)) (min z n) 0 = lnK (M (85 + s)) (min z n - (i + 1)) (i + 1)) from by exact ⟨by omega, by rw [he, show min z n - i = (min z n - (i + 1)) + 1 by omega]; simp only [lnK]; rw [if_pos (show pLine _ = true from d73)]⟩) (by show min z n - (i + 1) < _; omega)
    · skip
      exact absurd (of_decide_eq_true d25) h
  · skip
    exact (bz d4 (rg_lt (b := 4) hs (by decide))).elim
