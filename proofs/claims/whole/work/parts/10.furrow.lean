-- pure words: what a furrow is (a row of seven ints: kind, m, long, crook, hand, age, covered)
def pAns (a b : Nat → Int32) : Bool :=
  if a 0 = 1 then decide (a 2 = b 2) else if a 0 = 2 then decide (b 3 ≤ a 3) else if a 0 = 3 then (decide (a 2 = b 2) || decide (a 3 = b 3) || decide (a 2 + a 3 = b 2 + b 3)) else if a 0 = 4 then (decide (a 2 = b 2) && decide (a 3 = b 3)) else if a 0 = 5 then decide (a 3 < b 3) else if a 0 = 6 then (decide (a 2 = b 2) || decide (a 3 = b 3) || decide (a 4 = b 4)) else (decide (a 2 = b 2) || decide (a 3 = b 3))
def pDepth (a : Nat → Int32) : Int32 :=
  if a 0 = 1 then a 1 + 2 else if a 0 = 2 then 2 * a 1 else if a 0 = 4 then a 1 + 2 + a 3 else if a 0 = 5 then 2 * a 1 - 1 else if a 0 = 6 then a 1 + a 2 else a 1
def pUnh (pat : Int32) (f : Nat → Int32) : Nat → Int32 := upd (upd f 5 (if f 5 + 1 < 99 then f 5 + 1 else 99)) 6 (if pat ≤ (if f 5 + 1 < 99 then f 5 + 1 else 99) then 1 else 0)
def kind7 (x : Int32) : Prop := x = 0 ∨ x = 1 ∨ x = 2 ∨ x = 3 ∨ x = 4 ∨ x = 5 ∨ x = 6
def pOf (x q : Int32) : Bool := decide (0 = q) || decide (x = q) || (decide (1 = q) && decide (x = 4)) || (decide (2 = q) && decide (x = 5))
def pHold (v a b : Int32) : Int32 := if v < a then a else if b < v then b else v

set_option maxHeartbeats 4000000 in
set_option maxRecDepth 20000 in
theorem qX9_isKind (l : Launch) (g : GT) (M : Mem) (x : Int32) : CtrE l g yX9_isKind cX9_isKind 1 (some .boolean) 0 [.int x] M (b2i (decide (0 ≤ x) && decide (x < 7))) M := by
  refine ctrI_of (by decide +kernel) (Nat.le_of_ble_eq_true rfl) ?_
  intro pP eE RR sS mI aG bB mE cD C
  refine k_lo (lo' := [(0, .int x)]) rfl ?_
  refine k_iload_n C 1 0 rfl rfl dX9_isKind_0 rfl ?_
  refine k_if_lt C 14 4 dX9_isKind_1 (by decide) rfl (fun c1 => ?_) (fun d1 => ?_)
  · skip
    refine k_iconst C 15 (v := 0) (by decide) dX9_isKind_14 rfl ?_
    refine k_ret C rfl dX9_isKind_15 ?_
    exact ⟨b2i_neg (by (simp only [Bool.and_eq_true, Bool.or_eq_true, Bool.and_eq_false_iff, Bool.or_eq_false_iff, decide_eq_true_eq, decide_eq_false_iff_not, Bool.not_eq_true, Bool.not_eq_false, Int32.lt_iff_toInt_lt, Int32.le_iff_toInt_le, ← Int32.toInt_inj, Int32.reduceToInt] at c1 ⊢) <;> omega), rfl⟩
  · skip
    refine k_iload_n C 5 0 rfl rfl dX9_isKind_4 rfl ?_
    refine k_bipush C 7 (v := 7) (by decide) dX9_isKind_5 rfl ?_
    refine k_icmp_ge C 14 10 dX9_isKind_7 (by decide) rfl (fun c7 => ?_) (fun d7 => ?_)
    · skip
      refine k_iconst C 15 (v := 0) (by decide) dX9_isKind_14 rfl ?_
      refine k_ret C rfl dX9_isKind_15 ?_
      exact ⟨b2i_neg (by (simp only [Bool.and_eq_true, Bool.or_eq_true, Bool.and_eq_false_iff, Bool.or_eq_false_iff, decide_eq_true_eq, decide_eq_false_iff_not, Bool.not_eq_true, Bool.not_eq_false, Int32.lt_iff_toInt_lt, Int32.le_iff_toInt_le, ← Int32.toInt_inj, Int32.reduceToInt] at d1 c7 ⊢) <;> omega), rfl⟩
    · skip
      refine k_iconst C 11 (v := 1) (by decide) dX9_isKind_10 rfl ?_
      refine k_goto C 15 dX9_isKind_11 (by decide) ?_
      refine k_ret C rfl dX9_isKind_15 ?_
      exact ⟨b2i_pos (by (simp only [Bool.and_eq_true, Bool.or_eq_true, Bool.and_eq_false_iff, Bool.or_eq_false_iff, decide_eq_true_eq, decide_eq_false_iff_not, Bool.not_eq_true, Bool.not_eq_false, Int32.lt_iff_toInt_lt, Int32.le_iff_toInt_le, ← Int32.toInt_inj, Int32.reduceToInt] at d1 d7 ⊢) <;> omega), rfl⟩
set_option maxHeartbeats 4000000 in
set_option maxRecDepth 20000 in
theorem qX9_isKindWithNumber (l : Launch) (g : GT) (M : Mem) (x : Int32) : CtrE l g yX9_isKindWithNumber cX9_isKindWithNumber 1 (some .boolean) 0 [.int x] M (b2i (decide (0 ≤ x) && decide (x < 70))) M := by
  refine ctrI_of (by decide +kernel) (Nat.le_of_ble_eq_true rfl) ?_
  intro pP eE RR sS mI aG bB mE cD C
  refine k_lo (lo' := [(0, .int x)]) rfl ?_
  refine k_iload_n C 1 0 rfl rfl dX9_isKindWithNumber_0 rfl ?_
  refine k_if_lt C 14 4 dX9_isKindWithNumber_1 (by decide) rfl (fun c1 => ?_) (fun d1 => ?_)
  · skip
    refine k_iconst C 15 (v := 0) (by decide) dX9_isKindWithNumber_14 rfl ?_
    refine k_ret C rfl dX9_isKindWithNumber_15 ?_
    exact ⟨b2i_neg (by (simp only [Bool.and_eq_true, Bool.or_eq_true, Bool.and_eq_false_iff, Bool.or_eq_false_iff, decide_eq_true_eq, decide_eq_false_iff_not, Bool.not_eq_true, Bool.not_eq_false, Int32.lt_iff_toInt_lt, Int32.le_iff_toInt_le, ← Int32.toInt_inj, Int32.reduceToInt] at c1 ⊢) <;> omega), rfl⟩
  · skip
    refine k_iload_n C 5 0 rfl rfl dX9_isKindWithNumber_4 rfl ?_
    refine k_bipush C 7 (v := 70) (by decide) dX9_isKindWithNumber_5 rfl ?_
    refine k_icmp_ge C 14 10 dX9_isKindWithNumber_7 (by decide) rfl (fun c7 => ?_) (fun d7 => ?_)
    · skip
      refine k_iconst C 15 (v := 0) (by decide) dX9_isKindWithNumber_14 rfl ?_
      refine k_ret C rfl dX9_isKindWithNumber_15 ?_
      exact ⟨b2i_neg (by (simp only [Bool.and_eq_true, Bool.or_eq_true, Bool.and_eq_false_iff, Bool.or_eq_false_iff, decide_eq_true_eq, decide_eq_false_iff_not, Bool.not_eq_true, Bool.not_eq_false, Int32.lt_iff_toInt_lt, Int32.le_iff_toInt_le, ← Int32.toInt_inj, Int32.reduceToInt] at d1 c7 ⊢) <;> omega), rfl⟩
    · skip
      refine k_iconst C 11 (v := 1) (by decide) dX9_isKindWithNumber_10 rfl ?_
      refine k_goto C 15 dX9_isKindWithNumber_11 (by decide) ?_
      refine k_ret C rfl dX9_isKindWithNumber_15 ?_
      exact ⟨b2i_pos (by (simp only [Bool.and_eq_true, Bool.or_eq_true, Bool.and_eq_false_iff, Bool.or_eq_false_iff, decide_eq_true_eq, decide_eq_false_iff_not, Bool.not_eq_true, Bool.not_eq_false, Int32.lt_iff_toInt_lt, Int32.le_iff_toInt_le, ← Int32.toInt_inj, Int32.reduceToInt] at d1 d7 ⊢) <;> omega), rfl⟩
set_option maxHeartbeats 4000000 in
set_option maxRecDepth 20000 in
theorem qX9_isHand (l : Launch) (g : GT) (M : Mem) (x : Int32) : CtrE l g yX9_isHand cX9_isHand 1 (some .boolean) 0 [.int x] M (b2i (decide (0 ≤ x) && decide (x < 6))) M := by
  refine ctrI_of (by decide +kernel) (Nat.le_of_ble_eq_true rfl) ?_
  intro pP eE RR sS mI aG bB mE cD C
  refine k_lo (lo' := [(0, .int x)]) rfl ?_
  refine k_iload_n C 1 0 rfl rfl dX9_isHand_0 rfl ?_
  refine k_if_lt C 14 4 dX9_isHand_1 (by decide) rfl (fun c1 => ?_) (fun d1 => ?_)
  · skip
    refine k_iconst C 15 (v := 0) (by decide) dX9_isHand_14 rfl ?_
    refine k_ret C rfl dX9_isHand_15 ?_
    exact ⟨b2i_neg (by (simp only [Bool.and_eq_true, Bool.or_eq_true, Bool.and_eq_false_iff, Bool.or_eq_false_iff, decide_eq_true_eq, decide_eq_false_iff_not, Bool.not_eq_true, Bool.not_eq_false, Int32.lt_iff_toInt_lt, Int32.le_iff_toInt_le, ← Int32.toInt_inj, Int32.reduceToInt] at c1 ⊢) <;> omega), rfl⟩
  · skip
    refine k_iload_n C 5 0 rfl rfl dX9_isHand_4 rfl ?_
    refine k_bipush C 7 (v := 6) (by decide) dX9_isHand_5 rfl ?_
    refine k_icmp_ge C 14 10 dX9_isHand_7 (by decide) rfl (fun c7 => ?_) (fun d7 => ?_)
    · skip
      refine k_iconst C 15 (v := 0) (by decide) dX9_isHand_14 rfl ?_
      refine k_ret C rfl dX9_isHand_15 ?_
      exact ⟨b2i_neg (by (simp only [Bool.and_eq_true, Bool.or_eq_true, Bool.and_eq_false_iff, Bool.or_eq_false_iff, decide_eq_true_eq, decide_eq_false_iff_not, Bool.not_eq_true, Bool.not_eq_false, Int32.lt_iff_toInt_lt, Int32.le_iff_toInt_le, ← Int32.toInt_inj, Int32.reduceToInt] at d1 c7 ⊢) <;> omega), rfl⟩
    · skip
      refine k_iconst C 11 (v := 1) (by decide) dX9_isHand_10 rfl ?_
      refine k_goto C 15 dX9_isHand_11 (by decide) ?_
      refine k_ret C rfl dX9_isHand_15 ?_
      exact ⟨b2i_pos (by (simp only [Bool.and_eq_true, Bool.or_eq_true, Bool.and_eq_false_iff, Bool.or_eq_false_iff, decide_eq_true_eq, decide_eq_false_iff_not, Bool.not_eq_true, Bool.not_eq_false, Int32.lt_iff_toInt_lt, Int32.le_iff_toInt_le, ← Int32.toInt_inj, Int32.reduceToInt] at d1 d7 ⊢) <;> omega), rfl⟩
set_option maxHeartbeats 4000000 in
set_option maxRecDepth 20000 in
theorem qX9_isUse (l : Launch) (g : GT) (M : Mem) (x : Int32) : CtrE l g yX9_isUse cX9_isUse 1 (some .boolean) 0 [.int x] M (b2i (decide (0 ≤ x) && decide (x < 2))) M := by
  refine ctrI_of (by decide +kernel) (Nat.le_of_ble_eq_true rfl) ?_
  intro pP eE RR sS mI aG bB mE cD C
  refine k_lo (lo' := [(0, .int x)]) rfl ?_
  refine k_iload_n C 1 0 rfl rfl dX9_isUse_0 rfl ?_
  refine k_if_lt C 13 4 dX9_isUse_1 (by decide) rfl (fun c1 => ?_) (fun d1 => ?_)
  · skip
    refine k_iconst C 14 (v := 0) (by decide) dX9_isUse_13 rfl ?_
    refine k_ret C rfl dX9_isUse_14 ?_
    exact ⟨b2i_neg (by (simp only [Bool.and_eq_true, Bool.or_eq_true, Bool.and_eq_false_iff, Bool.or_eq_false_iff, decide_eq_true_eq, decide_eq_false_iff_not, Bool.not_eq_true, Bool.not_eq_false, Int32.lt_iff_toInt_lt, Int32.le_iff_toInt_le, ← Int32.toInt_inj, Int32.reduceToInt] at c1 ⊢) <;> omega), rfl⟩
  · skip
    refine k_iload_n C 5 0 rfl rfl dX9_isUse_4 rfl ?_
    refine k_iconst C 6 (v := 2) (by decide) dX9_isUse_5 rfl ?_
    refine k_icmp_ge C 13 9 dX9_isUse_6 (by decide) rfl (fun c6 => ?_) (fun d6 => ?_)
    · skip
      refine k_iconst C 14 (v := 0) (by decide) dX9_isUse_13 rfl ?_
      refine k_ret C rfl dX9_isUse_14 ?_
      exact ⟨b2i_neg (by (simp only [Bool.and_eq_true, Bool.or_eq_true, Bool.and_eq_false_iff, Bool.or_eq_false_iff, decide_eq_true_eq, decide_eq_false_iff_not, Bool.not_eq_true, Bool.not_eq_false, Int32.lt_iff_toInt_lt, Int32.le_iff_toInt_le, ← Int32.toInt_inj, Int32.reduceToInt] at d1 c6 ⊢) <;> omega), rfl⟩
    · skip
      refine k_iconst C 10 (v := 1) (by decide) dX9_isUse_9 rfl ?_
      refine k_goto C 14 dX9_isUse_10 (by decide) ?_
      refine k_ret C rfl dX9_isUse_14 ?_
      exact ⟨b2i_pos (by (simp only [Bool.and_eq_true, Bool.or_eq_true, Bool.and_eq_false_iff, Bool.or_eq_false_iff, decide_eq_true_eq, decide_eq_false_iff_not, Bool.not_eq_true, Bool.not_eq_false, Int32.lt_iff_toInt_lt, Int32.le_iff_toInt_le, ← Int32.toInt_inj, Int32.reduceToInt] at d1 d6 ⊢) <;> omega), rfl⟩
set_option maxHeartbeats 4000000 in
set_option maxRecDepth 20000 in
theorem qX9_isSheet (l : Launch) (g : GT) (M : Mem) (x : Int32) : CtrE l g yX9_isSheet cX9_isSheet 1 (some .boolean) 0 [.int x] M (b2i (decide (0 ≤ x) && decide (x < 4))) M := by
  refine ctrI_of (by decide +kernel) (Nat.le_of_ble_eq_true rfl) ?_
  intro pP eE RR sS mI aG bB mE cD C
  refine k_lo (lo' := [(0, .int x)]) rfl ?_
  refine k_iload_n C 1 0 rfl rfl dX9_isSheet_0 rfl ?_
  refine k_if_lt C 13 4 dX9_isSheet_1 (by decide) rfl (fun c1 => ?_) (fun d1 => ?_)
  · skip
    refine k_iconst C 14 (v := 0) (by decide) dX9_isSheet_13 rfl ?_
    refine k_ret C rfl dX9_isSheet_14 ?_
    exact ⟨b2i_neg (by (simp only [Bool.and_eq_true, Bool.or_eq_true, Bool.and_eq_false_iff, Bool.or_eq_false_iff, decide_eq_true_eq, decide_eq_false_iff_not, Bool.not_eq_true, Bool.not_eq_false, Int32.lt_iff_toInt_lt, Int32.le_iff_toInt_le, ← Int32.toInt_inj, Int32.reduceToInt] at c1 ⊢) <;> omega), rfl⟩
  · skip
    refine k_iload_n C 5 0 rfl rfl dX9_isSheet_4 rfl ?_
    refine k_iconst C 6 (v := 4) (by decide) dX9_isSheet_5 rfl ?_
    refine k_icmp_ge C 13 9 dX9_isSheet_6 (by decide) rfl (fun c6 => ?_) (fun d6 => ?_)
    · skip
      refine k_iconst C 14 (v := 0) (by decide) dX9_isSheet_13 rfl ?_
      refine k_ret C rfl dX9_isSheet_14 ?_
      exact ⟨b2i_neg (by (simp only [Bool.and_eq_true, Bool.or_eq_true, Bool.and_eq_false_iff, Bool.or_eq_false_iff, decide_eq_true_eq, decide_eq_false_iff_not, Bool.not_eq_true, Bool.not_eq_false, Int32.lt_iff_toInt_lt, Int32.le_iff_toInt_le, ← Int32.toInt_inj, Int32.reduceToInt] at d1 c6 ⊢) <;> omega), rfl⟩
    · skip
      refine k_iconst C 10 (v := 1) (by decide) dX9_isSheet_9 rfl ?_
      refine k_goto C 14 dX9_isSheet_10 (by decide) ?_
      refine k_ret C rfl dX9_isSheet_14 ?_
      exact ⟨b2i_pos (by (simp only [Bool.and_eq_true, Bool.or_eq_true, Bool.and_eq_false_iff, Bool.or_eq_false_iff, decide_eq_true_eq, decide_eq_false_iff_not, Bool.not_eq_true, Bool.not_eq_false, Int32.lt_iff_toInt_lt, Int32.le_iff_toInt_le, ← Int32.toInt_inj, Int32.reduceToInt] at d1 d6 ⊢) <;> omega), rfl⟩
set_option maxHeartbeats 4000000 in
set_option maxRecDepth 20000 in
theorem qX9_isLine (l : Launch) (g : GT) (M : Mem) (x : Int32) : CtrE l g yX9_isLine cX9_isLine 1 (some .boolean) 0 [.int x] M (b2i (decide (10 ≤ x) && decide (x / 10 ≤ 12) && decide (x - x / 10 * 10 < 6))) M := by
  refine ctrI_of (by decide +kernel) (Nat.le_of_ble_eq_true rfl) ?_
  intro pP eE RR sS mI aG bB mE cD C
  refine k_lo (lo' := [(0, .int x)]) rfl ?_
  refine k_iload_n C 1 0 rfl rfl dX9_isLine_0 rfl ?_
  refine k_bipush C 3 (v := 10) (by decide) dX9_isLine_1 rfl ?_
  refine k_icmp_lt C 28 6 dX9_isLine_3 (by decide) rfl (fun c3 => ?_) (fun d3 => ?_)
  · skip
    refine k_iconst C 29 (v := 0) (by decide) dX9_isLine_28 rfl ?_
    refine k_ret C rfl dX9_isLine_29 ?_
    exact ⟨b2i_neg (by (simp only [Bool.and_eq_true, Bool.or_eq_true, Bool.and_eq_false_iff, Bool.or_eq_false_iff, decide_eq_true_eq, decide_eq_false_iff_not, Bool.not_eq_true, Bool.not_eq_false, Int32.lt_iff_toInt_lt, Int32.le_iff_toInt_le, ← Int32.toInt_inj, Int32.reduceToInt] at c3 ⊢) <;> omega), rfl⟩
  · skip
    refine k_iload_n C 7 0 rfl rfl dX9_isLine_6 rfl ?_
    refine k_bipush C 9 (v := 10) (by decide) dX9_isLine_7 rfl ?_
    refine k_idiv C 10 (by decide) dX9_isLine_9 rfl ?_
    refine k_bipush C 12 (v := 12) (by decide) dX9_isLine_10 rfl ?_
    refine k_icmp_gt C 28 15 dX9_isLine_12 (by decide) rfl (fun c12 => ?_) (fun d12 => ?_)
    · skip
      refine k_iconst C 29 (v := 0) (by decide) dX9_isLine_28 rfl ?_
      refine k_ret C rfl dX9_isLine_29 ?_
      exact ⟨b2i_neg (by (simp only [Bool.and_eq_true, Bool.or_eq_true, Bool.and_eq_false_iff, Bool.or_eq_false_iff, decide_eq_true_eq, decide_eq_false_iff_not, Bool.not_eq_true, Bool.not_eq_false, Int32.lt_iff_toInt_lt, Int32.le_iff_toInt_le, ← Int32.toInt_inj, Int32.reduceToInt] at d3 c12 ⊢) <;> omega), rfl⟩
    · skip
      refine k_iload_n C 16 0 rfl rfl dX9_isLine_15 rfl ?_
      refine k_bipush C 18 (v := 10) (by decide) dX9_isLine_16 rfl ?_
      refine k_irem C 19 (by decide) dX9_isLine_18 rfl ?_
      refine k_bipush C 21 (v := 6) (by decide) dX9_isLine_19 rfl ?_
      refine k_icmp_ge C 28 24 dX9_isLine_21 (by decide) rfl (fun c21 => ?_) (fun d21 => ?_)
      · skip
        refine k_iconst C 29 (v := 0) (by decide) dX9_isLine_28 rfl ?_
        refine k_ret C rfl dX9_isLine_29 ?_
        exact ⟨b2i_neg (by (simp only [Bool.and_eq_true, Bool.or_eq_true, Bool.and_eq_false_iff, Bool.or_eq_false_iff, decide_eq_true_eq, decide_eq_false_iff_not, Bool.not_eq_true, Bool.not_eq_false, Int32.lt_iff_toInt_lt, Int32.le_iff_toInt_le, ← Int32.toInt_inj, Int32.reduceToInt] at d3 d12 c21 ⊢) <;> omega), rfl⟩
      · skip
        refine k_iconst C 25 (v := 1) (by decide) dX9_isLine_24 rfl ?_
        refine k_goto C 29 dX9_isLine_25 (by decide) ?_
        refine k_ret C rfl dX9_isLine_29 ?_
        exact ⟨b2i_pos (by (simp only [Bool.and_eq_true, Bool.or_eq_true, Bool.and_eq_false_iff, Bool.or_eq_false_iff, decide_eq_true_eq, decide_eq_false_iff_not, Bool.not_eq_true, Bool.not_eq_false, Int32.lt_iff_toInt_lt, Int32.le_iff_toInt_le, ← Int32.toInt_inj, Int32.reduceToInt] at d3 d12 d21 ⊢) <;> omega), rfl⟩
set_option maxHeartbeats 4000000 in
set_option maxRecDepth 20000 in
theorem qX9_lineAt (l : Launch) (g : GT) (M : Mem) (x : Int32) : CtrE l g yX9_lineAt cX9_lineAt 1 (some .int) 0 [.int x] M (10 * (1 + x / 6) + (x - x / 6 * 6)) M := by
  refine ctrI_of (by decide +kernel) (Nat.le_of_ble_eq_true rfl) ?_
  intro pP eE RR sS mI aG bB mE cD C
  refine k_lo (lo' := [(0, .int x)]) rfl ?_
  refine k_bipush C 2 (v := 10) (by decide) dX9_lineAt_0 rfl ?_
  refine k_iconst C 3 (v := 1) (by decide) dX9_lineAt_2 rfl ?_
  refine k_iload_n C 4 0 rfl rfl dX9_lineAt_3 rfl ?_
  refine k_bipush C 6 (v := 6) (by decide) dX9_lineAt_4 rfl ?_
  refine k_idiv C 7 (by decide) dX9_lineAt_6 rfl ?_
  refine k_iadd C 8 dX9_lineAt_7 rfl ?_
  refine k_imul C 9 dX9_lineAt_8 rfl ?_
  refine k_iload_n C 10 0 rfl rfl dX9_lineAt_9 rfl ?_
  refine k_bipush C 12 (v := 6) (by decide) dX9_lineAt_10 rfl ?_
  refine k_irem C 13 (by decide) dX9_lineAt_12 rfl ?_
  refine k_iadd C 14 dX9_lineAt_13 rfl ?_
  refine k_ret C rfl dX9_lineAt_14 ?_
  exact ⟨rfl, rfl⟩
set_option maxHeartbeats 4000000 in
set_option maxRecDepth 20000 in
theorem qX9_hold (l : Launch) (g : GT) (M : Mem) (v a b : Int32) (hab : a ≤ b) : CtrE l g yX9_hold cX9_hold 3 (some .int) 0 [.int v, .int a, .int b] M (pHold v a b) M := by
  refine ctrI_of (by decide +kernel) (Nat.le_of_ble_eq_true rfl) ?_
  intro pP eE RR sS mI aG bB mE cD C
  refine k_lo (lo' := [(0, .int v), (1, .int a), (2, .int b)]) rfl ?_
  refine k_iload_n C 1 1 rfl rfl dX9_hold_0 rfl ?_
  refine k_iload_n C 2 2 rfl rfl dX9_hold_1 rfl ?_
  refine k_iload_n C 3 0 rfl rfl dX9_hold_2 rfl ?_
  refine k_mmin C 6 mwX9_325 (Nat.le_of_ble_eq_true rfl) dX9_hold_3 rfl ?_
  refine k_mmax C 9 mwX9_353 (Nat.le_of_ble_eq_true rfl) dX9_hold_6 rfl ?_
  refine k_ret C rfl dX9_hold_9 ?_
  exact ⟨by unfold pHold; (repeat' split) <;> simp only [Int32.lt_iff_toInt_lt, Int32.le_iff_toInt_le] at * <;> first | rfl | (apply Int32.toInt_inj.mp; omega) | omega, rfl⟩
set_option maxHeartbeats 4000000 in
set_option maxRecDepth 20000 in
theorem qX9_asNumber (l : Launch) (g : GT) (M : Mem) (b : Bool) : CtrE l g yX9_asNumber cX9_asNumber 1 (some .int) 0 [.int (b2i b)] M (b2i b) M := by
  refine ctrI_of (by decide +kernel) (Nat.le_of_ble_eq_true rfl) ?_
  intro pP eE RR sS mI aG bB mE cD C
  refine k_lo (lo' := [(0, .int (b2i b))]) rfl ?_
  refine k_iload_n C 1 0 rfl rfl dX9_asNumber_0 rfl ?_
  refine k_if_eqB C 8 4 dX9_asNumber_1 (by decide) rfl (fun c1 => ?_) (fun d1 => ?_)
  · skip
    refine k_iconst C 9 (v := 0) (by decide) dX9_asNumber_8 rfl ?_
    refine k_ret C rfl dX9_asNumber_9 ?_
    exact ⟨b2i_neg c1, rfl⟩
  · skip
    refine k_iconst C 5 (v := 1) (by decide) dX9_asNumber_4 rfl ?_
    refine k_goto C 9 dX9_asNumber_5 (by decide) ?_
    refine k_ret C rfl dX9_asNumber_9 ?_
    exact ⟨b2i_pos d1, rfl⟩
set_option maxHeartbeats 4000000 in
set_option maxRecDepth 20000 in
theorem qX2_setKindAndNumber (l : Launch) (g : GT) (M : Mem) {k : Nat} (hk : k < 37) (x : Int32) : CtrU l g yX2_setKindAndNumber cX2_setKindAndNumber 2 0 [.ref (ga g k), .int x] M (mu (mu M k 0 (x / 10)) k 1 (x - x / 10 * 10)) := by
  refine ctrV_of (by decide +kernel) (Nat.le_of_ble_eq_true rfl) ?_
  intro pP eE RR sS mI aG bB mE cD C
  refine k_lo (lo' := [(0, .ref (ga g k)), (1, .int x)]) rfl ?_
  refine k_aload_n C 1 0 rfl rfl dX2_setKindAndNumber_0 rfl ?_
  refine k_iload_n C 2 1 rfl rfl dX2_setKindAndNumber_1 rfl ?_
  refine k_bipush C 4 (v := 10) (by decide) dX2_setKindAndNumber_2 rfl ?_
  refine k_idiv C 5 (by decide) dX2_setKindAndNumber_4 rfl ?_
  refine k_put C 8 flX2_15 plX2 k (lt105_fu hk) (ce_fu g _ hk) (ce_fu g _ hk) (Nat.le_of_ble_eq_true rfl) rfl rfl rfl dX2_setKindAndNumber_5 rfl ?_
  refine k_aload_n C 9 0 rfl rfl dX2_setKindAndNumber_8 rfl ?_
  refine k_iload_n C 10 1 rfl rfl dX2_setKindAndNumber_9 rfl ?_
  refine k_bipush C 12 (v := 10) (by decide) dX2_setKindAndNumber_10 rfl ?_
  refine k_irem C 13 (by decide) dX2_setKindAndNumber_12 rfl ?_
  refine k_put C 16 flX2_18 plX2 k (lt105_fu hk) (ce_fu g _ hk) (ce_fu g _ hk) (Nat.le_of_ble_eq_true rfl) rfl rfl rfl dX2_setKindAndNumber_13 rfl ?_
  refine k_vret C dX2_setKindAndNumber_16 ?_
  rfl
set_option maxHeartbeats 4000000 in
set_option maxRecDepth 20000 in
theorem qX2_setLine (l : Launch) (g : GT) (M : Mem) {k : Nat} (hk : k < 37) (x : Int32) : CtrU l g yX2_setLine cX2_setLine 2 0 [.ref (ga g k), .int x] M (mu (mu M k 2 (x / 10)) k 3 (x - x / 10 * 10)) := by
  refine ctrV_of (by decide +kernel) (Nat.le_of_ble_eq_true rfl) ?_
  intro pP eE RR sS mI aG bB mE cD C
  refine k_lo (lo' := [(0, .ref (ga g k)), (1, .int x)]) rfl ?_
  refine k_aload_n C 1 0 rfl rfl dX2_setLine_0 rfl ?_
  refine k_iload_n C 2 1 rfl rfl dX2_setLine_1 rfl ?_
  refine k_bipush C 4 (v := 10) (by decide) dX2_setLine_2 rfl ?_
  refine k_idiv C 5 (by decide) dX2_setLine_4 rfl ?_
  refine k_put C 8 flX2_9 plX2 k (lt105_fu hk) (ce_fu g _ hk) (ce_fu g _ hk) (Nat.le_of_ble_eq_true rfl) rfl rfl rfl dX2_setLine_5 rfl ?_
  refine k_aload_n C 9 0 rfl rfl dX2_setLine_8 rfl ?_
  refine k_iload_n C 10 1 rfl rfl dX2_setLine_9 rfl ?_
  refine k_bipush C 12 (v := 10) (by decide) dX2_setLine_10 rfl ?_
  refine k_irem C 13 (by decide) dX2_setLine_12 rfl ?_
  refine k_put C 16 flX2_21 plX2 k (lt105_fu hk) (ce_fu g _ hk) (ce_fu g _ hk) (Nat.le_of_ble_eq_true rfl) rfl rfl rfl dX2_setLine_13 rfl ?_
  refine k_vret C dX2_setLine_16 ?_
  rfl
set_option maxHeartbeats 4000000 in
set_option maxRecDepth 20000 in
theorem qX2_line (l : Launch) (g : GT) (M : Mem) {k : Nat} (hk : k < 37)  : CtrE l g yX2_line cX2_line 1 (some .int) 0 [.ref (ga g k)] M (10 * M k 2 + M k 3) M := by
  refine ctrI_of (by decide +kernel) (Nat.le_of_ble_eq_true rfl) ?_
  intro pP eE RR sS mI aG bB mE cD C
  refine k_lo (lo' := [(0, .ref (ga g k))]) rfl ?_
  refine k_bipush C 2 (v := 10) (by decide) dX2_line_0 rfl ?_
  refine k_aload_n C 3 0 rfl rfl dX2_line_2 rfl ?_
  refine k_get C 6 flX2_9 k (lt105_fu hk) (v := .int ((M) k 2)) (ce_fu g _ hk) rfl dX2_line_3 rfl ?_
  refine k_imul C 7 dX2_line_6 rfl ?_
  refine k_aload_n C 8 0 rfl rfl dX2_line_7 rfl ?_
  refine k_get C 11 flX2_21 k (lt105_fu hk) (v := .int ((M) k 3)) (ce_fu g _ hk) rfl dX2_line_8 rfl ?_
  refine k_iadd C 12 dX2_line_11 rfl ?_
  refine k_ret C rfl dX2_line_12 ?_
  exact ⟨rfl, rfl⟩
set_option maxHeartbeats 4000000 in
set_option maxRecDepth 20000 in
theorem qX2_isAlike (l : Launch) (g : GT) (M : Mem) {k : Nat} (hk : k < 37) {k2 : Nat} (hk2 : k2 < 37) : CtrE l g yX2_isAlike cX2_isAlike 2 (some .boolean) 0 [.ref (ga g k), .ref (ga g k2)] M (b2i (decide (M k 2 = M k2 2) || decide (M k 3 = M k2 3))) M := by
  refine ctrI_of (by decide +kernel) (Nat.le_of_ble_eq_true rfl) ?_
  intro pP eE RR sS mI aG bB mE cD C
  refine k_lo (lo' := [(0, .ref (ga g k)), (1, .ref (ga g k2))]) rfl ?_
  refine k_aload_n C 1 0 rfl rfl dX2_isAlike_0 rfl ?_
  refine k_get C 4 flX2_9 k (lt105_fu hk) (v := .int ((M) k 2)) (ce_fu g _ hk) rfl dX2_isAlike_1 rfl ?_
  refine k_aload_n C 5 1 rfl rfl dX2_isAlike_4 rfl ?_
  refine k_get C 8 flX2_9 k2 (lt105_fu hk2) (v := .int ((M) k2 2)) (ce_fu g _ hk2) rfl dX2_isAlike_5 rfl ?_
  refine k_icmp_eq C 22 11 dX2_isAlike_8 (by decide) rfl (fun c8 => ?_) (fun d8 => ?_)
  · skip
    refine k_iconst C 23 (v := 1) (by decide) dX2_isAlike_22 rfl ?_
    refine k_goto C 27 dX2_isAlike_23 (by decide) ?_
    refine k_ret C rfl dX2_isAlike_27 ?_
    exact ⟨b2i_pos (by first | (simp [c8]; done) | (simp [] <;> simp only [Int32.lt_iff_toInt_lt, Int32.le_iff_toInt_le, ← Int32.toInt_inj, Int32.reduceToInt] at c8 ⊢ <;> omega)), rfl⟩
  · skip
    refine k_aload_n C 12 0 rfl rfl dX2_isAlike_11 rfl ?_
    refine k_get C 15 flX2_21 k (lt105_fu hk) (v := .int ((M) k 3)) (ce_fu g _ hk) rfl dX2_isAlike_12 rfl ?_
    refine k_aload_n C 16 1 rfl rfl dX2_isAlike_15 rfl ?_
    refine k_get C 19 flX2_21 k2 (lt105_fu hk2) (v := .int ((M) k2 3)) (ce_fu g _ hk2) rfl dX2_isAlike_16 rfl ?_
    refine k_icmp_ne C 26 22 dX2_isAlike_19 (by decide) rfl (fun c19 => ?_) (fun d19 => ?_)
    · skip
      refine k_iconst C 27 (v := 0) (by decide) dX2_isAlike_26 rfl ?_
      refine k_ret C rfl dX2_isAlike_27 ?_
      exact ⟨b2i_neg (by first | (simp [d8, c19]; done) | (simp [] <;> simp only [Int32.lt_iff_toInt_lt, Int32.le_iff_toInt_le, ← Int32.toInt_inj, Int32.reduceToInt] at d8 c19 ⊢ <;> omega)), rfl⟩
    · skip
      refine k_iconst C 23 (v := 1) (by decide) dX2_isAlike_22 rfl ?_
      refine k_goto C 27 dX2_isAlike_23 (by decide) ?_
      refine k_ret C rfl dX2_isAlike_27 ?_
      exact ⟨b2i_pos (by first | (simp [d8, d19]; done) | (simp [] <;> simp only [Int32.lt_iff_toInt_lt, Int32.le_iff_toInt_le, ← Int32.toInt_inj, Int32.reduceToInt] at d8 d19 ⊢ <;> omega)), rfl⟩
set_option maxHeartbeats 4000000 in
set_option maxRecDepth 20000 in
theorem qX2_echoes (l : Launch) (g : GT) (M : Mem) {k : Nat} (hk : k < 37) {k2 : Nat} (hk2 : k2 < 37) : CtrE l g yX2_echoes cX2_echoes 2 (some .boolean) 1 [.ref (ga g k), .ref (ga g k2)] M (b2i (pAns (M k) (M k2))) M := by
  refine ctrI_of (by decide +kernel) (Nat.le_of_ble_eq_true rfl) ?_
  intro pP eE RR sS mI aG bB mE cD C
  refine k_lo (lo' := [(0, .ref (ga g k)), (1, .ref (ga g k2))]) rfl ?_
  refine k_aload_n C 1 0 rfl rfl dX2_echoes_0 rfl ?_
  refine k_get C 4 flX2_15 k (lt105_fu hk) (v := .int ((M) k 0)) (ce_fu g _ hk) rfl dX2_echoes_1 rfl ?_
  by_cases w4_1 : M k 0 = 1
  · skip
    refine k_tin C 44 (by rw [w4_1]; decide) (by rw [w4_1]; decide) (by rw [w4_1]; rfl) dX2_echoes_4 (by decide) ?_
    refine k_aload_n C 45 0 rfl rfl dX2_echoes_44 rfl ?_
    refine k_get C 48 flX2_9 k (lt105_fu hk) (v := .int ((M) k 2)) (ce_fu g _ hk) rfl dX2_echoes_45 rfl ?_
    refine k_aload_n C 49 1 rfl rfl dX2_echoes_48 rfl ?_
    refine k_get C 52 flX2_9 k2 (lt105_fu hk2) (v := .int ((M) k2 2)) (ce_fu g _ hk2) rfl dX2_echoes_49 rfl ?_
    refine k_icmp_ne C 59 55 dX2_echoes_52 (by decide) rfl (fun c52 => ?_) (fun d52 => ?_)
    · skip
      refine k_iconst C 60 (v := 0) (by decide) dX2_echoes_59 rfl ?_
      refine k_ret C rfl dX2_echoes_60 ?_
      exact ⟨b2i_neg (by first | (simp [pAns, ← Int32.not_lt, w4_1, c52]; done) | (simp [pAns, ← Int32.not_lt, w4_1] <;> simp only [Int32.lt_iff_toInt_lt, Int32.le_iff_toInt_le, ← Int32.toInt_inj, Int32.reduceToInt] at c52 ⊢ <;> omega)), rfl⟩
    · skip
      refine k_iconst C 56 (v := 1) (by decide) dX2_echoes_55 rfl ?_
      refine k_goto C 60 dX2_echoes_56 (by decide) ?_
      refine k_ret C rfl dX2_echoes_60 ?_
      exact ⟨b2i_pos (by first | (simp [pAns, ← Int32.not_lt, w4_1, d52]; done) | (simp [pAns, ← Int32.not_lt, w4_1] <;> simp only [Int32.lt_iff_toInt_lt, Int32.le_iff_toInt_le, ← Int32.toInt_inj, Int32.reduceToInt] at d52 ⊢ <;> omega)), rfl⟩
  · skip
    by_cases w4_2 : M k 0 = 2
    · skip
      refine k_tin C 61 (by rw [w4_2]; decide) (by rw [w4_2]; decide) (by rw [w4_2]; rfl) dX2_echoes_4 (by decide) ?_
      refine k_aload_n C 62 0 rfl rfl dX2_echoes_61 rfl ?_
      refine k_get C 65 flX2_21 k (lt105_fu hk) (v := .int ((M) k 3)) (ce_fu g _ hk) rfl dX2_echoes_62 rfl ?_
      refine k_aload_n C 66 1 rfl rfl dX2_echoes_65 rfl ?_
      refine k_get C 69 flX2_21 k2 (lt105_fu hk2) (v := .int ((M) k2 3)) (ce_fu g _ hk2) rfl dX2_echoes_66 rfl ?_
      refine k_icmp_lt C 76 72 dX2_echoes_69 (by decide) rfl (fun c69 => ?_) (fun d69 => ?_)
      · skip
        refine k_iconst C 77 (v := 0) (by decide) dX2_echoes_76 rfl ?_
        refine k_ret C rfl dX2_echoes_77 ?_
        exact ⟨b2i_neg (by first | (simp [pAns, ← Int32.not_lt, w4_2, c69]; done) | (simp [pAns, ← Int32.not_lt, w4_2] <;> simp only [Int32.lt_iff_toInt_lt, Int32.le_iff_toInt_le, ← Int32.toInt_inj, Int32.reduceToInt] at c69 ⊢ <;> omega)), rfl⟩
      · skip
        refine k_iconst C 73 (v := 1) (by decide) dX2_echoes_72 rfl ?_
        refine k_goto C 77 dX2_echoes_73 (by decide) ?_
        refine k_ret C rfl dX2_echoes_77 ?_
        exact ⟨b2i_pos (by first | (simp [pAns, ← Int32.not_lt, w4_2, d69]; done) | (simp [pAns, ← Int32.not_lt, w4_2] <;> simp only [Int32.lt_iff_toInt_lt, Int32.le_iff_toInt_le, ← Int32.toInt_inj, Int32.reduceToInt] at d69 ⊢ <;> omega)), rfl⟩
    · skip
      by_cases w4_3 : M k 0 = 3
      · skip
        refine k_tin C 78 (by rw [w4_3]; decide) (by rw [w4_3]; decide) (by rw [w4_3]; rfl) dX2_echoes_4 (by decide) ?_
        refine k_aload_n C 79 0 rfl rfl dX2_echoes_78 rfl ?_
        refine k_aload_n C 80 1 rfl rfl dX2_echoes_79 rfl ?_
        refine k_callVE C 83 (As := [.ref (ga g k2)]) (st := []) k (lt105_fu hk) (ce_fu g _ hk) rfl rfl mwX2_32 vlX2_isAlike (qX2_isAlike l g M hk hk2) mlX2_isAlike (by decide) (by decide) rfl rfl (Nat.le_of_ble_eq_true rfl) dX2_echoes_80 rfl ?_
        refine k_if_neB C 107 86 dX2_echoes_83 (by decide) rfl (fun c83 => ?_) (fun d83 => ?_)
        · skip
          refine k_iconst C 108 (v := 1) (by decide) dX2_echoes_107 rfl ?_
          refine k_goto C 112 dX2_echoes_108 (by decide) ?_
          refine k_ret C rfl dX2_echoes_112 ?_
          exact ⟨b2i_pos (by first | (simp [pAns, ← Int32.not_lt, w4_3, c83]; done) | (simp [pAns, ← Int32.not_lt, w4_3] <;> simp only [Int32.lt_iff_toInt_lt, Int32.le_iff_toInt_le, ← Int32.toInt_inj, Int32.reduceToInt] at c83 ⊢ <;> omega)), rfl⟩
        · skip
          refine k_aload_n C 87 0 rfl rfl dX2_echoes_86 rfl ?_
          refine k_get C 90 flX2_9 k (lt105_fu hk) (v := .int ((M) k 2)) (ce_fu g _ hk) rfl dX2_echoes_87 rfl ?_
          refine k_aload_n C 91 0 rfl rfl dX2_echoes_90 rfl ?_
          refine k_get C 94 flX2_21 k (lt105_fu hk) (v := .int ((M) k 3)) (ce_fu g _ hk) rfl dX2_echoes_91 rfl ?_
          refine k_iadd C 95 dX2_echoes_94 rfl ?_
          refine k_aload_n C 96 1 rfl rfl dX2_echoes_95 rfl ?_
          refine k_get C 99 flX2_9 k2 (lt105_fu hk2) (v := .int ((M) k2 2)) (ce_fu g _ hk2) rfl dX2_echoes_96 rfl ?_
          refine k_aload_n C 100 1 rfl rfl dX2_echoes_99 rfl ?_
          refine k_get C 103 flX2_21 k2 (lt105_fu hk2) (v := .int ((M) k2 3)) (ce_fu g _ hk2) rfl dX2_echoes_100 rfl ?_
          refine k_iadd C 104 dX2_echoes_103 rfl ?_
          refine k_icmp_ne C 111 107 dX2_echoes_104 (by decide) rfl (fun c104 => ?_) (fun d104 => ?_)
          · skip
            refine k_iconst C 112 (v := 0) (by decide) dX2_echoes_111 rfl ?_
            refine k_ret C rfl dX2_echoes_112 ?_
            exact ⟨b2i_neg (by first | (simp [pAns, ← Int32.not_lt, w4_3, d83, c104]; done) | (simp [pAns, ← Int32.not_lt, w4_3] <;> simp only [Int32.lt_iff_toInt_lt, Int32.le_iff_toInt_le, ← Int32.toInt_inj, Int32.reduceToInt] at d83 c104 ⊢ <;> omega)), rfl⟩
          · skip
            refine k_iconst C 108 (v := 1) (by decide) dX2_echoes_107 rfl ?_
            refine k_goto C 112 dX2_echoes_108 (by decide) ?_
            refine k_ret C rfl dX2_echoes_112 ?_
            exact ⟨b2i_pos (by first | (simp [pAns, ← Int32.not_lt, w4_3, d83, d104]; done) | (simp [pAns, ← Int32.not_lt, w4_3] <;> simp only [Int32.lt_iff_toInt_lt, Int32.le_iff_toInt_le, ← Int32.toInt_inj, Int32.reduceToInt] at d83 d104 ⊢ <;> omega)), rfl⟩
      · skip
        by_cases w4_4 : M k 0 = 4
        · skip
          refine k_tin C 113 (by rw [w4_4]; decide) (by rw [w4_4]; decide) (by rw [w4_4]; rfl) dX2_echoes_4 (by decide) ?_
          refine k_aload_n C 114 0 rfl rfl dX2_echoes_113 rfl ?_
          refine k_get C 117 flX2_9 k (lt105_fu hk) (v := .int ((M) k 2)) (ce_fu g _ hk) rfl dX2_echoes_114 rfl ?_
          refine k_aload_n C 118 1 rfl rfl dX2_echoes_117 rfl ?_
          refine k_get C 121 flX2_9 k2 (lt105_fu hk2) (v := .int ((M) k2 2)) (ce_fu g _ hk2) rfl dX2_echoes_118 rfl ?_
          refine k_icmp_ne C 139 124 dX2_echoes_121 (by decide) rfl (fun c121 => ?_) (fun d121 => ?_)
          · skip
            refine k_iconst C 140 (v := 0) (by decide) dX2_echoes_139 rfl ?_
            refine k_ret C rfl dX2_echoes_140 ?_
            exact ⟨b2i_neg (by first | (simp [pAns, ← Int32.not_lt, w4_4, c121]; done) | (simp [pAns, ← Int32.not_lt, w4_4] <;> simp only [Int32.lt_iff_toInt_lt, Int32.le_iff_toInt_le, ← Int32.toInt_inj, Int32.reduceToInt] at c121 ⊢ <;> omega)), rfl⟩
          · skip
            refine k_aload_n C 125 0 rfl rfl dX2_echoes_124 rfl ?_
            refine k_get C 128 flX2_21 k (lt105_fu hk) (v := .int ((M) k 3)) (ce_fu g _ hk) rfl dX2_echoes_125 rfl ?_
            refine k_aload_n C 129 1 rfl rfl dX2_echoes_128 rfl ?_
            refine k_get C 132 flX2_21 k2 (lt105_fu hk2) (v := .int ((M) k2 3)) (ce_fu g _ hk2) rfl dX2_echoes_129 rfl ?_
            refine k_icmp_ne C 139 135 dX2_echoes_132 (by decide) rfl (fun c132 => ?_) (fun d132 => ?_)
            · skip
              refine k_iconst C 140 (v := 0) (by decide) dX2_echoes_139 rfl ?_
              refine k_ret C rfl dX2_echoes_140 ?_
              exact ⟨b2i_neg (by first | (simp [pAns, ← Int32.not_lt, w4_4, d121, c132]; done) | (simp [pAns, ← Int32.not_lt, w4_4] <;> simp only [Int32.lt_iff_toInt_lt, Int32.le_iff_toInt_le, ← Int32.toInt_inj, Int32.reduceToInt] at d121 c132 ⊢ <;> omega)), rfl⟩
            · skip
              refine k_iconst C 136 (v := 1) (by decide) dX2_echoes_135 rfl ?_
              refine k_goto C 140 dX2_echoes_136 (by decide) ?_
              refine k_ret C rfl dX2_echoes_140 ?_
              exact ⟨b2i_pos (by first | (simp [pAns, ← Int32.not_lt, w4_4, d121, d132]; done) | (simp [pAns, ← Int32.not_lt, w4_4] <;> simp only [Int32.lt_iff_toInt_lt, Int32.le_iff_toInt_le, ← Int32.toInt_inj, Int32.reduceToInt] at d121 d132 ⊢ <;> omega)), rfl⟩
        · skip
          by_cases w4_5 : M k 0 = 5
          · skip
            refine k_tin C 141 (by rw [w4_5]; decide) (by rw [w4_5]; decide) (by rw [w4_5]; rfl) dX2_echoes_4 (by decide) ?_
            refine k_aload_n C 142 0 rfl rfl dX2_echoes_141 rfl ?_
            refine k_get C 145 flX2_21 k (lt105_fu hk) (v := .int ((M) k 3)) (ce_fu g _ hk) rfl dX2_echoes_142 rfl ?_
            refine k_aload_n C 146 1 rfl rfl dX2_echoes_145 rfl ?_
            refine k_get C 149 flX2_21 k2 (lt105_fu hk2) (v := .int ((M) k2 3)) (ce_fu g _ hk2) rfl dX2_echoes_146 rfl ?_
            refine k_icmp_ge C 156 152 dX2_echoes_149 (by decide) rfl (fun c149 => ?_) (fun d149 => ?_)
            · skip
              refine k_iconst C 157 (v := 0) (by decide) dX2_echoes_156 rfl ?_
              refine k_ret C rfl dX2_echoes_157 ?_
              exact ⟨b2i_neg (by first | (simp [pAns, ← Int32.not_lt, w4_5, c149]; done) | (simp [pAns, ← Int32.not_lt, w4_5] <;> simp only [Int32.lt_iff_toInt_lt, Int32.le_iff_toInt_le, ← Int32.toInt_inj, Int32.reduceToInt] at c149 ⊢ <;> omega)), rfl⟩
            · skip
              refine k_iconst C 153 (v := 1) (by decide) dX2_echoes_152 rfl ?_
              refine k_goto C 157 dX2_echoes_153 (by decide) ?_
              refine k_ret C rfl dX2_echoes_157 ?_
              exact ⟨b2i_pos (by first | (simp [pAns, ← Int32.not_lt, w4_5, d149]; done) | (simp [pAns, ← Int32.not_lt, w4_5] <;> simp only [Int32.lt_iff_toInt_lt, Int32.le_iff_toInt_le, ← Int32.toInt_inj, Int32.reduceToInt] at d149 ⊢ <;> omega)), rfl⟩
          · skip
            by_cases w4_6 : M k 0 = 6
            · skip
              refine k_tin C 158 (by rw [w4_6]; decide) (by rw [w4_6]; decide) (by rw [w4_6]; rfl) dX2_echoes_4 (by decide) ?_
              refine k_aload_n C 159 0 rfl rfl dX2_echoes_158 rfl ?_
              refine k_aload_n C 160 1 rfl rfl dX2_echoes_159 rfl ?_
              refine k_callVE C 163 (As := [.ref (ga g k2)]) (st := []) k (lt105_fu hk) (ce_fu g _ hk) rfl rfl mwX2_32 vlX2_isAlike (qX2_isAlike l g M hk hk2) mlX2_isAlike (by decide) (by decide) rfl rfl (Nat.le_of_ble_eq_true rfl) dX2_echoes_160 rfl ?_
              refine k_if_neB C 177 166 dX2_echoes_163 (by decide) rfl (fun c163 => ?_) (fun d163 => ?_)
              · skip
                refine k_iconst C 178 (v := 1) (by decide) dX2_echoes_177 rfl ?_
                refine k_goto C 182 dX2_echoes_178 (by decide) ?_
                refine k_ret C rfl dX2_echoes_182 ?_
                exact ⟨b2i_pos (by first | (simp [pAns, ← Int32.not_lt, w4_6, c163]; done) | (simp [pAns, ← Int32.not_lt, w4_6] <;> simp only [Int32.lt_iff_toInt_lt, Int32.le_iff_toInt_le, ← Int32.toInt_inj, Int32.reduceToInt] at c163 ⊢ <;> omega)), rfl⟩
              · skip
                refine k_aload_n C 167 0 rfl rfl dX2_echoes_166 rfl ?_
                refine k_get C 170 flX2_36 k (lt105_fu hk) (v := .int ((M) k 4)) (ce_fu g _ hk) rfl dX2_echoes_167 rfl ?_
                refine k_aload_n C 171 1 rfl rfl dX2_echoes_170 rfl ?_
                refine k_get C 174 flX2_36 k2 (lt105_fu hk2) (v := .int ((M) k2 4)) (ce_fu g _ hk2) rfl dX2_echoes_171 rfl ?_
                refine k_icmp_ne C 181 177 dX2_echoes_174 (by decide) rfl (fun c174 => ?_) (fun d174 => ?_)
                · skip
                  refine k_iconst C 182 (v := 0) (by decide) dX2_echoes_181 rfl ?_
                  refine k_ret C rfl dX2_echoes_182 ?_
                  exact ⟨b2i_neg (by first | (simp [pAns, ← Int32.not_lt, w4_6, d163, c174]; done) | (simp [pAns, ← Int32.not_lt, w4_6] <;> simp only [Int32.lt_iff_toInt_lt, Int32.le_iff_toInt_le, ← Int32.toInt_inj, Int32.reduceToInt] at d163 c174 ⊢ <;> omega)), rfl⟩
                · skip
                  refine k_iconst C 178 (v := 1) (by decide) dX2_echoes_177 rfl ?_
                  refine k_goto C 182 dX2_echoes_178 (by decide) ?_
                  refine k_ret C rfl dX2_echoes_182 ?_
                  exact ⟨b2i_pos (by first | (simp [pAns, ← Int32.not_lt, w4_6, d163, d174]; done) | (simp [pAns, ← Int32.not_lt, w4_6] <;> simp only [Int32.lt_iff_toInt_lt, Int32.le_iff_toInt_le, ← Int32.toInt_inj, Int32.reduceToInt] at d163 d174 ⊢ <;> omega)), rfl⟩
            · skip
              refine k_tout C 183 (by have z0 := i_ne w4_1 (k := 1) rfl; have z1 := i_ne w4_2 (k := 2) rfl; have z2 := i_ne w4_3 (k := 3) rfl; have z3 := i_ne w4_4 (k := 4) rfl; have z4 := i_ne w4_5 (k := 5) rfl; have z5 := i_ne w4_6 (k := 6) rfl; omega) dX2_echoes_4 (by decide) ?_
              refine k_aload_n C 184 0 rfl rfl dX2_echoes_183 rfl ?_
              refine k_aload_n C 185 1 rfl rfl dX2_echoes_184 rfl ?_
              refine k_callVE C 188 (As := [.ref (ga g k2)]) (st := []) k (lt105_fu hk) (ce_fu g _ hk) rfl rfl mwX2_32 vlX2_isAlike (qX2_isAlike l g M hk hk2) mlX2_isAlike (by decide) (by decide) rfl rfl (Nat.le_of_ble_eq_true rfl) dX2_echoes_185 rfl ?_
              refine k_ret C (nar_b2i _) dX2_echoes_188 ?_
              exact ⟨by simp [pAns, ← Int32.not_lt, w4_1, w4_2, w4_3, w4_4, w4_5, w4_6], rfl⟩
set_option maxHeartbeats 4000000 in
set_option maxRecDepth 20000 in
theorem qX2_depth (l : Launch) (g : GT) (M : Mem) {k : Nat} (hk : k < 37)  : CtrE l g yX2_depth cX2_depth 1 (some .int) 0 [.ref (ga g k)] M (pDepth (M k)) M := by
  refine ctrI_of (by decide +kernel) (Nat.le_of_ble_eq_true rfl) ?_
  intro pP eE RR sS mI aG bB mE cD C
  refine k_lo (lo' := [(0, .ref (ga g k))]) rfl ?_
  refine k_aload_n C 1 0 rfl rfl dX2_depth_0 rfl ?_
  refine k_get C 4 flX2_15 k (lt105_fu hk) (v := .int ((M) k 0)) (ce_fu g _ hk) rfl dX2_depth_1 rfl ?_
  by_cases w4_1 : M k 0 = 1
  · skip
    refine k_tin C 44 (by rw [w4_1]; decide) (by rw [w4_1]; decide) (by rw [w4_1]; rfl) dX2_depth_4 (by decide) ?_
    refine k_aload_n C 45 0 rfl rfl dX2_depth_44 rfl ?_
    refine k_get C 48 flX2_18 k (lt105_fu hk) (v := .int ((M) k 1)) (ce_fu g _ hk) rfl dX2_depth_45 rfl ?_
    refine k_iconst C 49 (v := 2) (by decide) dX2_depth_48 rfl ?_
    refine k_iadd C 50 dX2_depth_49 rfl ?_
    refine k_ret C rfl dX2_depth_50 ?_
    exact ⟨by simp [pDepth, w4_1], rfl⟩
  · skip
    by_cases w4_2 : M k 0 = 2
    · skip
      refine k_tin C 51 (by rw [w4_2]; decide) (by rw [w4_2]; decide) (by rw [w4_2]; rfl) dX2_depth_4 (by decide) ?_
      refine k_iconst C 52 (v := 2) (by decide) dX2_depth_51 rfl ?_
      refine k_aload_n C 53 0 rfl rfl dX2_depth_52 rfl ?_
      refine k_get C 56 flX2_18 k (lt105_fu hk) (v := .int ((M) k 1)) (ce_fu g _ hk) rfl dX2_depth_53 rfl ?_
      refine k_imul C 57 dX2_depth_56 rfl ?_
      refine k_ret C rfl dX2_depth_57 ?_
      exact ⟨by simp [pDepth, w4_2], rfl⟩
    · skip
      by_cases w4_4 : M k 0 = 4
      · skip
        refine k_tin C 58 (by rw [w4_4]; decide) (by rw [w4_4]; decide) (by rw [w4_4]; rfl) dX2_depth_4 (by decide) ?_
        refine k_aload_n C 59 0 rfl rfl dX2_depth_58 rfl ?_
        refine k_get C 62 flX2_18 k (lt105_fu hk) (v := .int ((M) k 1)) (ce_fu g _ hk) rfl dX2_depth_59 rfl ?_
        refine k_iconst C 63 (v := 2) (by decide) dX2_depth_62 rfl ?_
        refine k_iadd C 64 dX2_depth_63 rfl ?_
        refine k_aload_n C 65 0 rfl rfl dX2_depth_64 rfl ?_
        refine k_get C 68 flX2_21 k (lt105_fu hk) (v := .int ((M) k 3)) (ce_fu g _ hk) rfl dX2_depth_65 rfl ?_
        refine k_iadd C 69 dX2_depth_68 rfl ?_
        refine k_ret C rfl dX2_depth_69 ?_
        exact ⟨by simp [pDepth, w4_4], rfl⟩
      · skip
        by_cases w4_5 : M k 0 = 5
        · skip
          refine k_tin C 70 (by rw [w4_5]; decide) (by rw [w4_5]; decide) (by rw [w4_5]; rfl) dX2_depth_4 (by decide) ?_
          refine k_iconst C 71 (v := 2) (by decide) dX2_depth_70 rfl ?_
          refine k_aload_n C 72 0 rfl rfl dX2_depth_71 rfl ?_
          refine k_get C 75 flX2_18 k (lt105_fu hk) (v := .int ((M) k 1)) (ce_fu g _ hk) rfl dX2_depth_72 rfl ?_
          refine k_imul C 76 dX2_depth_75 rfl ?_
          refine k_iconst C 77 (v := 1) (by decide) dX2_depth_76 rfl ?_
          refine k_isub C 78 dX2_depth_77 rfl ?_
          refine k_ret C rfl dX2_depth_78 ?_
          exact ⟨by simp [pDepth, w4_5], rfl⟩
        · skip
          by_cases w4_6 : M k 0 = 6
          · skip
            refine k_tin C 79 (by rw [w4_6]; decide) (by rw [w4_6]; decide) (by rw [w4_6]; rfl) dX2_depth_4 (by decide) ?_
            refine k_aload_n C 80 0 rfl rfl dX2_depth_79 rfl ?_
            refine k_get C 83 flX2_18 k (lt105_fu hk) (v := .int ((M) k 1)) (ce_fu g _ hk) rfl dX2_depth_80 rfl ?_
            refine k_aload_n C 84 0 rfl rfl dX2_depth_83 rfl ?_
            refine k_get C 87 flX2_9 k (lt105_fu hk) (v := .int ((M) k 2)) (ce_fu g _ hk) rfl dX2_depth_84 rfl ?_
            refine k_iadd C 88 dX2_depth_87 rfl ?_
            refine k_ret C rfl dX2_depth_88 ?_
            exact ⟨by simp [pDepth, w4_6], rfl⟩
          · skip
            by_cases w4_3 : M k 0 = 3
            · skip
              refine k_tin C 89 (by rw [w4_3]; decide) (by rw [w4_3]; decide) (by rw [w4_3]; rfl) dX2_depth_4 (by decide) ?_
              refine k_aload_n C 90 0 rfl rfl dX2_depth_89 rfl ?_
              refine k_get C 93 flX2_18 k (lt105_fu hk) (v := .int ((M) k 1)) (ce_fu g _ hk) rfl dX2_depth_90 rfl ?_
              refine k_ret C rfl dX2_depth_93 ?_
              exact ⟨by simp [pDepth, w4_1, w4_2, w4_4, w4_5, w4_6, w4_3], rfl⟩
            · skip
              refine k_tout C 89 (by have z0 := i_ne w4_1 (k := 1) rfl; have z1 := i_ne w4_2 (k := 2) rfl; have z2 := i_ne w4_4 (k := 4) rfl; have z3 := i_ne w4_5 (k := 5) rfl; have z4 := i_ne w4_6 (k := 6) rfl; have z5 := i_ne w4_3 (k := 3) rfl; omega) dX2_depth_4 (by decide) ?_
              refine k_aload_n C 90 0 rfl rfl dX2_depth_89 rfl ?_
              refine k_get C 93 flX2_18 k (lt105_fu hk) (v := .int ((M) k 1)) (ce_fu g _ hk) rfl dX2_depth_90 rfl ?_
              refine k_ret C rfl dX2_depth_93 ?_
              exact ⟨by simp [pDepth, w4_1, w4_2, w4_4, w4_5, w4_6, w4_3], rfl⟩
set_option maxHeartbeats 4000000 in
set_option maxRecDepth 20000 in
theorem qX2_goUnheard (l : Launch) (g : GT) (M : Mem) {k : Nat} (hk : k < 37) (pat : Int32) (h0 : M k 6 = 0) : CtrU l g yX2_goUnheard cX2_goUnheard 2 0 [.ref (ga g k), .int pat] M (mrow M k (pUnh pat (M k))) := by
  refine ctrV_of (by decide +kernel) (Nat.le_of_ble_eq_true rfl) ?_
  intro pP eE RR sS mI aG bB mE cD C
  refine k_lo (lo' := [(0, .ref (ga g k)), (1, .int pat)]) rfl ?_
  refine k_aload_n C 1 0 rfl rfl dX2_goUnheard_0 rfl ?_
  refine k_bipush C 3 (v := 99) (by decide) dX2_goUnheard_1 rfl ?_
  refine k_aload_n C 4 0 rfl rfl dX2_goUnheard_3 rfl ?_
  refine k_get C 7 flX2_39 k (lt105_fu hk) (v := .int ((M) k 5)) (ce_fu g _ hk) rfl dX2_goUnheard_4 rfl ?_
  refine k_iconst C 8 (v := 1) (by decide) dX2_goUnheard_7 rfl ?_
  refine k_iadd C 9 dX2_goUnheard_8 rfl ?_
  refine k_mmin C 12 mwX2_42 (Nat.le_of_ble_eq_true rfl) dX2_goUnheard_9 rfl ?_
  refine k_put C 15 flX2_39 plX2 k (lt105_fu hk) (ce_fu g _ hk) (ce_fu g _ hk) (Nat.le_of_ble_eq_true rfl) rfl rfl rfl dX2_goUnheard_12 rfl ?_
  refine k_aload_n C 16 0 rfl rfl dX2_goUnheard_15 rfl ?_
  refine k_get C 19 flX2_39 k (lt105_fu hk) (v := .int ((mu M k 5 (if (M k 5) + 1 < 99 then (M k 5) + 1 else 99)) k 5)) (ce_fu g _ hk) rfl dX2_goUnheard_16 rfl ?_
  refine k_teq (show (mu M k 5 (if (M k 5) + 1 < 99 then (M k 5) + 1 else 99)) k 5 = (if (M k 5) + 1 < 99 then (M k 5) + 1 else 99) by simp [mu_at]) ?_
  refine k_iload_n C 20 1 rfl rfl dX2_goUnheard_19 rfl ?_
  refine k_icmp_lt C 28 23 dX2_goUnheard_20 (by decide) rfl (fun c20 => ?_) (fun d20 => ?_)
  · skip
    refine k_vret C dX2_goUnheard_28 ?_
    show _ = _
    simp only [pUnh]
    generalize (if M k 5 + 1 < 99 then M k 5 + 1 else 99) = z at c20 ⊢
    simp only [mu, mrow_s]
    funext a
    by_cases ha : a = k
    · subst ha
      simp only [mrow_s]
      funext j
      simp only [upd]
      (repeat' split) <;> first | rfl | (simp_all; done) | (simp only [Int32.lt_iff_toInt_lt, Int32.le_iff_toInt_le] at *; omega)
    · simp only [mrow_n _ _ ha]
  · skip
    refine k_aload_n C 24 0 rfl rfl dX2_goUnheard_23 rfl ?_
    refine k_iconst C 25 (v := 1) (by decide) dX2_goUnheard_24 rfl ?_
    refine k_put C 28 flX2_48 plX2 k (lt105_fu hk) (ce_fu g _ hk) (ce_fu g _ hk) (Nat.le_of_ble_eq_true rfl) rfl rfl rfl dX2_goUnheard_25 rfl ?_
    refine k_vret C dX2_goUnheard_28 ?_
    show _ = _
    simp only [pUnh]
    generalize (if M k 5 + 1 < 99 then M k 5 + 1 else 99) = z at d20 ⊢
    simp only [mu, mrow_s]
    funext a
    by_cases ha : a = k
    · subst ha
      simp only [mrow_s]
      funext j
      simp only [upd]
      (repeat' split) <;> first | rfl | (simp_all; done) | (simp only [Int32.lt_iff_toInt_lt, Int32.le_iff_toInt_le] at *; omega)
    · simp only [mrow_n _ _ ha]
set_option maxHeartbeats 4000000 in
set_option maxRecDepth 20000 in
theorem qX2_copyFrom (l : Launch) (g : GT) (M : Mem) {k : Nat} (hk : k < 37) {k2 : Nat} (hk2 : k2 < 37) (hne : k2 ≠ k) (hb : M k2 6 = 0 ∨ M k2 6 = 1) : CtrV l g yX2_copyFrom cX2_copyFrom 2 0 [.ref (ga g k), .ref (ga g k2)] M (fun M1 => (∀ j, j < 7 → M1 k j = M k2 j) ∧ ∀ a, a ≠ k → M1 a = M a) := by
  refine ctrV_of (by decide +kernel) (Nat.le_of_ble_eq_true rfl) ?_
  intro pP eE RR sS mI aG bB mE cD C
  refine k_lo (lo' := [(0, .ref (ga g k)), (1, .ref (ga g k2))]) rfl ?_
  refine k_aload_n C 1 0 rfl rfl dX2_copyFrom_0 rfl ?_
  refine k_aload_n C 2 1 rfl rfl dX2_copyFrom_1 rfl ?_
  refine k_get C 5 flX2_15 k2 (lt105_fu hk2) (v := .int ((M) k2 0)) (ce_fu g _ hk2) rfl dX2_copyFrom_2 rfl ?_
  refine k_put C 8 flX2_15 plX2 k (lt105_fu hk) (ce_fu g _ hk) (ce_fu g _ hk) (Nat.le_of_ble_eq_true rfl) rfl rfl rfl dX2_copyFrom_5 rfl ?_
  refine k_aload_n C 9 0 rfl rfl dX2_copyFrom_8 rfl ?_
  refine k_aload_n C 10 1 rfl rfl dX2_copyFrom_9 rfl ?_
  refine k_get C 13 flX2_18 k2 (lt105_fu hk2) (v := .int ((mu M k 0 (M k2 0)) k2 1)) (ce_fu g _ hk2) rfl dX2_copyFrom_10 rfl ?_
  refine k_teq (show (mu M k 0 (M k2 0)) k2 1 = M k2 1 by simp [mu_at, hne]) ?_
  refine k_put C 16 flX2_18 plX2 k (lt105_fu hk) (ce_fu g _ hk) (ce_fu g _ hk) (Nat.le_of_ble_eq_true rfl) rfl rfl rfl dX2_copyFrom_13 rfl ?_
  refine k_aload_n C 17 0 rfl rfl dX2_copyFrom_16 rfl ?_
  refine k_aload_n C 18 1 rfl rfl dX2_copyFrom_17 rfl ?_
  refine k_get C 21 flX2_9 k2 (lt105_fu hk2) (v := .int ((mu (mu M k 0 (M k2 0)) k 1 (M k2 1)) k2 2)) (ce_fu g _ hk2) rfl dX2_copyFrom_18 rfl ?_
  refine k_teq (show (mu (mu M k 0 (M k2 0)) k 1 (M k2 1)) k2 2 = M k2 2 by simp [mu_at, hne]) ?_
  refine k_put C 24 flX2_9 plX2 k (lt105_fu hk) (ce_fu g _ hk) (ce_fu g _ hk) (Nat.le_of_ble_eq_true rfl) rfl rfl rfl dX2_copyFrom_21 rfl ?_
  refine k_aload_n C 25 0 rfl rfl dX2_copyFrom_24 rfl ?_
  refine k_aload_n C 26 1 rfl rfl dX2_copyFrom_25 rfl ?_
  refine k_get C 29 flX2_21 k2 (lt105_fu hk2) (v := .int ((mu (mu (mu M k 0 (M k2 0)) k 1 (M k2 1)) k 2 (M k2 2)) k2 3)) (ce_fu g _ hk2) rfl dX2_copyFrom_26 rfl ?_
  refine k_teq (show (mu (mu (mu M k 0 (M k2 0)) k 1 (M k2 1)) k 2 (M k2 2)) k2 3 = M k2 3 by simp [mu_at, hne]) ?_
  refine k_put C 32 flX2_21 plX2 k (lt105_fu hk) (ce_fu g _ hk) (ce_fu g _ hk) (Nat.le_of_ble_eq_true rfl) rfl rfl rfl dX2_copyFrom_29 rfl ?_
  refine k_aload_n C 33 0 rfl rfl dX2_copyFrom_32 rfl ?_
  refine k_aload_n C 34 1 rfl rfl dX2_copyFrom_33 rfl ?_
  refine k_get C 37 flX2_36 k2 (lt105_fu hk2) (v := .int ((mu (mu (mu (mu M k 0 (M k2 0)) k 1 (M k2 1)) k 2 (M k2 2)) k 3 (M k2 3)) k2 4)) (ce_fu g _ hk2) rfl dX2_copyFrom_34 rfl ?_
  refine k_teq (show (mu (mu (mu (mu M k 0 (M k2 0)) k 1 (M k2 1)) k 2 (M k2 2)) k 3 (M k2 3)) k2 4 = M k2 4 by simp [mu_at, hne]) ?_
  refine k_put C 40 flX2_36 plX2 k (lt105_fu hk) (ce_fu g _ hk) (ce_fu g _ hk) (Nat.le_of_ble_eq_true rfl) rfl rfl rfl dX2_copyFrom_37 rfl ?_
  refine k_aload_n C 41 0 rfl rfl dX2_copyFrom_40 rfl ?_
  refine k_aload_n C 42 1 rfl rfl dX2_copyFrom_41 rfl ?_
  refine k_get C 45 flX2_39 k2 (lt105_fu hk2) (v := .int ((mu (mu (mu (mu (mu M k 0 (M k2 0)) k 1 (M k2 1)) k 2 (M k2 2)) k 3 (M k2 3)) k 4 (M k2 4)) k2 5)) (ce_fu g _ hk2) rfl dX2_copyFrom_42 rfl ?_
  refine k_teq (show (mu (mu (mu (mu (mu M k 0 (M k2 0)) k 1 (M k2 1)) k 2 (M k2 2)) k 3 (M k2 3)) k 4 (M k2 4)) k2 5 = M k2 5 by simp [mu_at, hne]) ?_
  refine k_put C 48 flX2_39 plX2 k (lt105_fu hk) (ce_fu g _ hk) (ce_fu g _ hk) (Nat.le_of_ble_eq_true rfl) rfl rfl rfl dX2_copyFrom_45 rfl ?_
  refine k_aload_n C 49 0 rfl rfl dX2_copyFrom_48 rfl ?_
  refine k_aload_n C 50 1 rfl rfl dX2_copyFrom_49 rfl ?_
  refine k_get C 53 flX2_48 k2 (lt105_fu hk2) (v := .int ((mu (mu (mu (mu (mu (mu M k 0 (M k2 0)) k 1 (M k2 1)) k 2 (M k2 2)) k 3 (M k2 3)) k 4 (M k2 4)) k 5 (M k2 5)) k2 6)) (ce_fu g _ hk2) rfl dX2_copyFrom_50 rfl ?_
  refine k_teq (show (mu (mu (mu (mu (mu (mu M k 0 (M k2 0)) k 1 (M k2 1)) k 2 (M k2 2)) k 3 (M k2 3)) k 4 (M k2 4)) k 5 (M k2 5)) k2 6 = M k2 6 by simp [mu_at, hne]) ?_
  refine k_put C 56 flX2_48 plX2 k (lt105_fu hk) (ce_fu g _ hk) (ce_fu g _ hk) (Nat.le_of_ble_eq_true rfl) rfl (nar_01 hb) (fit_01 hb) dX2_copyFrom_53 rfl ?_
  refine k_vret C dX2_copyFrom_56 ?_
  refine ⟨fun j hj => ?_, fun a ha => by simp only [mu_n _ _ _ ha]⟩
  rcases (show j = 0 ∨ j = 1 ∨ j = 2 ∨ j = 3 ∨ j = 4 ∨ j = 5 ∨ j = 6 by omega) with rfl | rfl | rfl | rfl | rfl | rfl | rfl <;> simp [mu_at]
set_option maxHeartbeats 4000000 in
set_option maxRecDepth 20000 in
theorem qX2_isOfKind (l : Launch) (g : GT) (M : Mem) {k : Nat} (hk : k < 37) (q : Int32) (h7 : kind7 (M k 0)) : CtrE l g yX2_isOfKind cX2_isOfKind 4 (some .boolean) 1 [.ref (ga g k), .int q] M (b2i (pOf (M k 0) q)) M := by
  refine ctrI_of (by decide +kernel) (Nat.le_of_ble_eq_true rfl) ?_
  intro pP eE RR sS mI aG bB mE cD C
  refine k_lo (lo' := [(0, .ref (ga g k)), (1, .int q)]) rfl ?_
  refine k_aload_n C 1 0 rfl rfl dX2_isOfKind_0 rfl ?_
  refine k_get C 4 flX2_15 k (lt105_fu hk) (v := .int ((M) k 0)) (ce_fu g _ hk) rfl dX2_isOfKind_1 rfl ?_
  rcases h7 with h0 | h1 | h2 | h3 | h4 | h5 | h6
  · skip
    refine k_teq h0 ?_
    refine k_istore_n C 5 [(2, .int 0), (0, .ref (ga g k)), (1, .int q)] rfl (by decide) rfl dX2_isOfKind_4 rfl ?_
    refine k_iconst C 6 (v := 0) (by decide) dX2_isOfKind_5 rfl ?_
    refine k_istore_n C 7 [(3, .int 0), (2, .int 0), (0, .ref (ga g k)), (1, .int q)] rfl (by decide) rfl dX2_isOfKind_6 rfl ?_
    refine k_iload_n C 8 0 rfl rfl dX2_isOfKind_7 rfl ?_
    refine k_bipush C 10 (v := 7) (by decide) dX2_isOfKind_8 rfl ?_
    refine k_icmp_ge C 39 13 dX2_isOfKind_10 (by decide) rfl (fun c10 => ?_) (fun d10 => ?_)
    · skip
      exact absurd c10 (by decide)
    · skip
      refine k_iload_n C 14 1 rfl rfl dX2_isOfKind_13 rfl ?_
      refine k_callNE C 17 (As := [.int 0]) (st := []) nwX2_24 skX9_isKind (qX9_isKind l g M 0) mlX9_isKind (by decide) (by decide) rfl rfl (Nat.le_of_ble_eq_true rfl) dX2_isOfKind_14 rfl ?_
      refine k_teq (show _ = (1 : Int32) by decide) ?_
      refine k_if_eq C 39 20 dX2_isOfKind_17 (by decide) rfl (fun c17 => ?_) (fun d17 => ?_)
      · skip
        exact absurd c17 (by decide)
      · skip
        refine k_iload_n C 21 1 rfl rfl dX2_isOfKind_20 rfl ?_
        refine k_iload_n C 22 3 rfl rfl dX2_isOfKind_21 rfl ?_
        refine k_icmp_ne C 27 25 dX2_isOfKind_22 (by decide) rfl (fun c22 => ?_) (fun d22 => ?_)
        · skip
          refine k_kab C 30 nwX2_28 dX2_isOfKind_27 rfl ?_
          refine k_iload_n C 31 1 rfl rfl dX2_isOfKind_30 rfl ?_
          refine k_kabl C 32 0 rfl (by omega) (v := (-1)) rfl dX2_isOfKind_31 rfl ?_
          refine k_istore_n C 33 [(2, .int (-1)), (3, .int 0), (0, .ref (ga g k)), (1, .int q)] rfl (by decide) rfl dX2_isOfKind_32 rfl ?_
          refine k_iinc C 36 (1) 1 [(3, .int 1), (2, .int (-1)), (0, .ref (ga g k)), (1, .int q)] rfl (by decide) (by decide) rfl dX2_isOfKind_33 rfl ?_
          refine k_goto C 7 dX2_isOfKind_36 (by decide) ?_
          refine k_iload_n C 8 0 rfl rfl dX2_isOfKind_7 rfl ?_
          refine k_bipush C 10 (v := 7) (by decide) dX2_isOfKind_8 rfl ?_
          refine k_icmp_ge C 39 13 dX2_isOfKind_10 (by decide) rfl (fun c10x => ?_) (fun d10x => ?_)
          · skip
            exact absurd c10x (by decide)
          · skip
            refine k_iload_n C 14 1 rfl rfl dX2_isOfKind_13 rfl ?_
            refine k_callNE C 17 (As := [.int (-1)]) (st := []) nwX2_24 skX9_isKind (qX9_isKind l g M (-1)) mlX9_isKind (by decide) (by decide) rfl rfl (Nat.le_of_ble_eq_true rfl) dX2_isOfKind_14 rfl ?_
            refine k_teq (show _ = (0 : Int32) by decide) ?_
            refine k_if_eq C 39 20 dX2_isOfKind_17 (by decide) rfl (fun c17x => ?_) (fun d17x => ?_)
            · skip
              refine k_iconst C 40 (v := 0) (by decide) dX2_isOfKind_39 rfl ?_
              refine k_ret C rfl dX2_isOfKind_40 ?_
              exact ⟨b2i_neg (by first | (simp [pOf, h0, d10, d17, c22, d10x, c17x]; done) | (simp [pOf, h0] <;> simp only [Int32.lt_iff_toInt_lt, Int32.le_iff_toInt_le, ← Int32.toInt_inj, Int32.reduceToInt] at d10 d17 c22 d10x c17x ⊢ <;> omega)), rfl⟩
            · skip
              exact absurd d17x (by decide)
        · skip
          refine k_iconst C 26 (v := 1) (by decide) dX2_isOfKind_25 rfl ?_
          refine k_ret C rfl dX2_isOfKind_26 ?_
          exact ⟨b2i_pos (by first | (simp [pOf, h0, d10, d17, d22]; done) | (simp [pOf, h0] <;> simp only [Int32.lt_iff_toInt_lt, Int32.le_iff_toInt_le, ← Int32.toInt_inj, Int32.reduceToInt] at d10 d17 d22 ⊢ <;> omega)), rfl⟩
  · skip
    refine k_teq h1 ?_
    refine k_istore_n C 5 [(2, .int 1), (0, .ref (ga g k)), (1, .int q)] rfl (by decide) rfl dX2_isOfKind_4 rfl ?_
    refine k_iconst C 6 (v := 0) (by decide) dX2_isOfKind_5 rfl ?_
    refine k_istore_n C 7 [(3, .int 0), (2, .int 1), (0, .ref (ga g k)), (1, .int q)] rfl (by decide) rfl dX2_isOfKind_6 rfl ?_
    refine k_iload_n C 8 0 rfl rfl dX2_isOfKind_7 rfl ?_
    refine k_bipush C 10 (v := 7) (by decide) dX2_isOfKind_8 rfl ?_
    refine k_icmp_ge C 39 13 dX2_isOfKind_10 (by decide) rfl (fun c10 => ?_) (fun d10 => ?_)
    · skip
      exact absurd c10 (by decide)
    · skip
      refine k_iload_n C 14 1 rfl rfl dX2_isOfKind_13 rfl ?_
      refine k_callNE C 17 (As := [.int 1]) (st := []) nwX2_24 skX9_isKind (qX9_isKind l g M 1) mlX9_isKind (by decide) (by decide) rfl rfl (Nat.le_of_ble_eq_true rfl) dX2_isOfKind_14 rfl ?_
      refine k_teq (show _ = (1 : Int32) by decide) ?_
      refine k_if_eq C 39 20 dX2_isOfKind_17 (by decide) rfl (fun c17 => ?_) (fun d17 => ?_)
      · skip
        exact absurd c17 (by decide)
      · skip
        refine k_iload_n C 21 1 rfl rfl dX2_isOfKind_20 rfl ?_
        refine k_iload_n C 22 3 rfl rfl dX2_isOfKind_21 rfl ?_
        refine k_icmp_ne C 27 25 dX2_isOfKind_22 (by decide) rfl (fun c22 => ?_) (fun d22 => ?_)
        · skip
          refine k_kab C 30 nwX2_28 dX2_isOfKind_27 rfl ?_
          refine k_iload_n C 31 1 rfl rfl dX2_isOfKind_30 rfl ?_
          refine k_kabl C 32 1 rfl (by omega) (v := 0) rfl dX2_isOfKind_31 rfl ?_
          refine k_istore_n C 33 [(2, .int 0), (3, .int 0), (0, .ref (ga g k)), (1, .int q)] rfl (by decide) rfl dX2_isOfKind_32 rfl ?_
          refine k_iinc C 36 (1) 1 [(3, .int 1), (2, .int 0), (0, .ref (ga g k)), (1, .int q)] rfl (by decide) (by decide) rfl dX2_isOfKind_33 rfl ?_
          refine k_goto C 7 dX2_isOfKind_36 (by decide) ?_
          refine k_iload_n C 8 0 rfl rfl dX2_isOfKind_7 rfl ?_
          refine k_bipush C 10 (v := 7) (by decide) dX2_isOfKind_8 rfl ?_
          refine k_icmp_ge C 39 13 dX2_isOfKind_10 (by decide) rfl (fun c10x => ?_) (fun d10x => ?_)
          · skip
            exact absurd c10x (by decide)
          · skip
            refine k_iload_n C 14 1 rfl rfl dX2_isOfKind_13 rfl ?_
            refine k_callNE C 17 (As := [.int 0]) (st := []) nwX2_24 skX9_isKind (qX9_isKind l g M 0) mlX9_isKind (by decide) (by decide) rfl rfl (Nat.le_of_ble_eq_true rfl) dX2_isOfKind_14 rfl ?_
            refine k_teq (show _ = (1 : Int32) by decide) ?_
            refine k_if_eq C 39 20 dX2_isOfKind_17 (by decide) rfl (fun c17x => ?_) (fun d17x => ?_)
            · skip
              exact absurd c17x (by decide)
            · skip
              refine k_iload_n C 21 1 rfl rfl dX2_isOfKind_20 rfl ?_
              refine k_iload_n C 22 3 rfl rfl dX2_isOfKind_21 rfl ?_
              refine k_icmp_ne C 27 25 dX2_isOfKind_22 (by decide) rfl (fun c22x => ?_) (fun d22x => ?_)
              · skip
                refine k_kab C 30 nwX2_28 dX2_isOfKind_27 rfl ?_
                refine k_iload_n C 31 1 rfl rfl dX2_isOfKind_30 rfl ?_
                refine k_kabl C 32 0 rfl (by omega) (v := (-1)) rfl dX2_isOfKind_31 rfl ?_
                refine k_istore_n C 33 [(2, .int (-1)), (3, .int 1), (0, .ref (ga g k)), (1, .int q)] rfl (by decide) rfl dX2_isOfKind_32 rfl ?_
                refine k_iinc C 36 (2) 1 [(3, .int 2), (2, .int (-1)), (0, .ref (ga g k)), (1, .int q)] rfl (by decide) (by decide) rfl dX2_isOfKind_33 rfl ?_
                refine k_goto C 7 dX2_isOfKind_36 (by decide) ?_
                refine k_iload_n C 8 0 rfl rfl dX2_isOfKind_7 rfl ?_
                refine k_bipush C 10 (v := 7) (by decide) dX2_isOfKind_8 rfl ?_
                refine k_icmp_ge C 39 13 dX2_isOfKind_10 (by decide) rfl (fun c10xx => ?_) (fun d10xx => ?_)
                · skip
                  exact absurd c10xx (by decide)
                · skip
                  refine k_iload_n C 14 1 rfl rfl dX2_isOfKind_13 rfl ?_
                  refine k_callNE C 17 (As := [.int (-1)]) (st := []) nwX2_24 skX9_isKind (qX9_isKind l g M (-1)) mlX9_isKind (by decide) (by decide) rfl rfl (Nat.le_of_ble_eq_true rfl) dX2_isOfKind_14 rfl ?_
                  refine k_teq (show _ = (0 : Int32) by decide) ?_
                  refine k_if_eq C 39 20 dX2_isOfKind_17 (by decide) rfl (fun c17xx => ?_) (fun d17xx => ?_)
                  · skip
                    refine k_iconst C 40 (v := 0) (by decide) dX2_isOfKind_39 rfl ?_
                    refine k_ret C rfl dX2_isOfKind_40 ?_
                    exact ⟨b2i_neg (by first | (simp [pOf, h1, d10, d17, c22, d10x, d17x, c22x, d10xx, c17xx]; done) | (simp [pOf, h1] <;> simp only [Int32.lt_iff_toInt_lt, Int32.le_iff_toInt_le, ← Int32.toInt_inj, Int32.reduceToInt] at d10 d17 c22 d10x d17x c22x d10xx c17xx ⊢ <;> omega)), rfl⟩
                  · skip
                    exact absurd d17xx (by decide)
              · skip
                refine k_iconst C 26 (v := 1) (by decide) dX2_isOfKind_25 rfl ?_
                refine k_ret C rfl dX2_isOfKind_26 ?_
                exact ⟨b2i_pos (by first | (simp [pOf, h1, d10, d17, c22, d10x, d17x, d22x]; done) | (simp [pOf, h1] <;> simp only [Int32.lt_iff_toInt_lt, Int32.le_iff_toInt_le, ← Int32.toInt_inj, Int32.reduceToInt] at d10 d17 c22 d10x d17x d22x ⊢ <;> omega)), rfl⟩
        · skip
          refine k_iconst C 26 (v := 1) (by decide) dX2_isOfKind_25 rfl ?_
          refine k_ret C rfl dX2_isOfKind_26 ?_
          exact ⟨b2i_pos (by first | (simp [pOf, h1, d10, d17, d22]; done) | (simp [pOf, h1] <;> simp only [Int32.lt_iff_toInt_lt, Int32.le_iff_toInt_le, ← Int32.toInt_inj, Int32.reduceToInt] at d10 d17 d22 ⊢ <;> omega)), rfl⟩
  · skip
    refine k_teq h2 ?_
    refine k_istore_n C 5 [(2, .int 2), (0, .ref (ga g k)), (1, .int q)] rfl (by decide) rfl dX2_isOfKind_4 rfl ?_
    refine k_iconst C 6 (v := 0) (by decide) dX2_isOfKind_5 rfl ?_
    refine k_istore_n C 7 [(3, .int 0), (2, .int 2), (0, .ref (ga g k)), (1, .int q)] rfl (by decide) rfl dX2_isOfKind_6 rfl ?_
    refine k_iload_n C 8 0 rfl rfl dX2_isOfKind_7 rfl ?_
    refine k_bipush C 10 (v := 7) (by decide) dX2_isOfKind_8 rfl ?_
    refine k_icmp_ge C 39 13 dX2_isOfKind_10 (by decide) rfl (fun c10 => ?_) (fun d10 => ?_)
    · skip
      exact absurd c10 (by decide)
    · skip
      refine k_iload_n C 14 1 rfl rfl dX2_isOfKind_13 rfl ?_
      refine k_callNE C 17 (As := [.int 2]) (st := []) nwX2_24 skX9_isKind (qX9_isKind l g M 2) mlX9_isKind (by decide) (by decide) rfl rfl (Nat.le_of_ble_eq_true rfl) dX2_isOfKind_14 rfl ?_
      refine k_teq (show _ = (1 : Int32) by decide) ?_
      refine k_if_eq C 39 20 dX2_isOfKind_17 (by decide) rfl (fun c17 => ?_) (fun d17 => ?_)
      · skip
        exact absurd c17 (by decide)
      · skip
        refine k_iload_n C 21 1 rfl rfl dX2_isOfKind_20 rfl ?_
        refine k_iload_n C 22 3 rfl rfl dX2_isOfKind_21 rfl ?_
        refine k_icmp_ne C 27 25 dX2_isOfKind_22 (by decide) rfl (fun c22 => ?_) (fun d22 => ?_)
        · skip
          refine k_kab C 30 nwX2_28 dX2_isOfKind_27 rfl ?_
          refine k_iload_n C 31 1 rfl rfl dX2_isOfKind_30 rfl ?_
          refine k_kabl C 32 2 rfl (by omega) (v := 0) rfl dX2_isOfKind_31 rfl ?_
          refine k_istore_n C 33 [(2, .int 0), (3, .int 0), (0, .ref (ga g k)), (1, .int q)] rfl (by decide) rfl dX2_isOfKind_32 rfl ?_
          refine k_iinc C 36 (1) 1 [(3, .int 1), (2, .int 0), (0, .ref (ga g k)), (1, .int q)] rfl (by decide) (by decide) rfl dX2_isOfKind_33 rfl ?_
          refine k_goto C 7 dX2_isOfKind_36 (by decide) ?_
          refine k_iload_n C 8 0 rfl rfl dX2_isOfKind_7 rfl ?_
          refine k_bipush C 10 (v := 7) (by decide) dX2_isOfKind_8 rfl ?_
          refine k_icmp_ge C 39 13 dX2_isOfKind_10 (by decide) rfl (fun c10x => ?_) (fun d10x => ?_)
          · skip
            exact absurd c10x (by decide)
          · skip
            refine k_iload_n C 14 1 rfl rfl dX2_isOfKind_13 rfl ?_
            refine k_callNE C 17 (As := [.int 0]) (st := []) nwX2_24 skX9_isKind (qX9_isKind l g M 0) mlX9_isKind (by decide) (by decide) rfl rfl (Nat.le_of_ble_eq_true rfl) dX2_isOfKind_14 rfl ?_
            refine k_teq (show _ = (1 : Int32) by decide) ?_
            refine k_if_eq C 39 20 dX2_isOfKind_17 (by decide) rfl (fun c17x => ?_) (fun d17x => ?_)
            · skip
              exact absurd c17x (by decide)
            · skip
              refine k_iload_n C 21 1 rfl rfl dX2_isOfKind_20 rfl ?_
              refine k_iload_n C 22 3 rfl rfl dX2_isOfKind_21 rfl ?_
              refine k_icmp_ne C 27 25 dX2_isOfKind_22 (by decide) rfl (fun c22x => ?_) (fun d22x => ?_)
              · skip
                refine k_kab C 30 nwX2_28 dX2_isOfKind_27 rfl ?_
                refine k_iload_n C 31 1 rfl rfl dX2_isOfKind_30 rfl ?_
                refine k_kabl C 32 0 rfl (by omega) (v := (-1)) rfl dX2_isOfKind_31 rfl ?_
                refine k_istore_n C 33 [(2, .int (-1)), (3, .int 1), (0, .ref (ga g k)), (1, .int q)] rfl (by decide) rfl dX2_isOfKind_32 rfl ?_
                refine k_iinc C 36 (2) 1 [(3, .int 2), (2, .int (-1)), (0, .ref (ga g k)), (1, .int q)] rfl (by decide) (by decide) rfl dX2_isOfKind_33 rfl ?_
                refine k_goto C 7 dX2_isOfKind_36 (by decide) ?_
                refine k_iload_n C 8 0 rfl rfl dX2_isOfKind_7 rfl ?_
                refine k_bipush C 10 (v := 7) (by decide) dX2_isOfKind_8 rfl ?_
                refine k_icmp_ge C 39 13 dX2_isOfKind_10 (by decide) rfl (fun c10xx => ?_) (fun d10xx => ?_)
                · skip
                  exact absurd c10xx (by decide)
                · skip
                  refine k_iload_n C 14 1 rfl rfl dX2_isOfKind_13 rfl ?_
                  refine k_callNE C 17 (As := [.int (-1)]) (st := []) nwX2_24 skX9_isKind (qX9_isKind l g M (-1)) mlX9_isKind (by decide) (by decide) rfl rfl (Nat.le_of_ble_eq_true rfl) dX2_isOfKind_14 rfl ?_
                  refine k_teq (show _ = (0 : Int32) by decide) ?_
                  refine k_if_eq C 39 20 dX2_isOfKind_17 (by decide) rfl (fun c17xx => ?_) (fun d17xx => ?_)
                  · skip
                    refine k_iconst C 40 (v := 0) (by decide) dX2_isOfKind_39 rfl ?_
                    refine k_ret C rfl dX2_isOfKind_40 ?_
                    exact ⟨b2i_neg (by first | (simp [pOf, h2, d10, d17, c22, d10x, d17x, c22x, d10xx, c17xx]; done) | (simp [pOf, h2] <;> simp only [Int32.lt_iff_toInt_lt, Int32.le_iff_toInt_le, ← Int32.toInt_inj, Int32.reduceToInt] at d10 d17 c22 d10x d17x c22x d10xx c17xx ⊢ <;> omega)), rfl⟩
                  · skip
                    exact absurd d17xx (by decide)
              · skip
                refine k_iconst C 26 (v := 1) (by decide) dX2_isOfKind_25 rfl ?_
                refine k_ret C rfl dX2_isOfKind_26 ?_
                exact ⟨b2i_pos (by first | (simp [pOf, h2, d10, d17, c22, d10x, d17x, d22x]; done) | (simp [pOf, h2] <;> simp only [Int32.lt_iff_toInt_lt, Int32.le_iff_toInt_le, ← Int32.toInt_inj, Int32.reduceToInt] at d10 d17 c22 d10x d17x d22x ⊢ <;> omega)), rfl⟩
        · skip
          refine k_iconst C 26 (v := 1) (by decide) dX2_isOfKind_25 rfl ?_
          refine k_ret C rfl dX2_isOfKind_26 ?_
          exact ⟨b2i_pos (by first | (simp [pOf, h2, d10, d17, d22]; done) | (simp [pOf, h2] <;> simp only [Int32.lt_iff_toInt_lt, Int32.le_iff_toInt_le, ← Int32.toInt_inj, Int32.reduceToInt] at d10 d17 d22 ⊢ <;> omega)), rfl⟩
  · skip
    refine k_teq h3 ?_
    refine k_istore_n C 5 [(2, .int 3), (0, .ref (ga g k)), (1, .int q)] rfl (by decide) rfl dX2_isOfKind_4 rfl ?_
    refine k_iconst C 6 (v := 0) (by decide) dX2_isOfKind_5 rfl ?_
    refine k_istore_n C 7 [(3, .int 0), (2, .int 3), (0, .ref (ga g k)), (1, .int q)] rfl (by decide) rfl dX2_isOfKind_6 rfl ?_
    refine k_iload_n C 8 0 rfl rfl dX2_isOfKind_7 rfl ?_
    refine k_bipush C 10 (v := 7) (by decide) dX2_isOfKind_8 rfl ?_
    refine k_icmp_ge C 39 13 dX2_isOfKind_10 (by decide) rfl (fun c10 => ?_) (fun d10 => ?_)
    · skip
      exact absurd c10 (by decide)
    · skip
      refine k_iload_n C 14 1 rfl rfl dX2_isOfKind_13 rfl ?_
      refine k_callNE C 17 (As := [.int 3]) (st := []) nwX2_24 skX9_isKind (qX9_isKind l g M 3) mlX9_isKind (by decide) (by decide) rfl rfl (Nat.le_of_ble_eq_true rfl) dX2_isOfKind_14 rfl ?_
      refine k_teq (show _ = (1 : Int32) by decide) ?_
      refine k_if_eq C 39 20 dX2_isOfKind_17 (by decide) rfl (fun c17 => ?_) (fun d17 => ?_)
      · skip
        exact absurd c17 (by decide)
      · skip
        refine k_iload_n C 21 1 rfl rfl dX2_isOfKind_20 rfl ?_
        refine k_iload_n C 22 3 rfl rfl dX2_isOfKind_21 rfl ?_
        refine k_icmp_ne C 27 25 dX2_isOfKind_22 (by decide) rfl (fun c22 => ?_) (fun d22 => ?_)
        · skip
          refine k_kab C 30 nwX2_28 dX2_isOfKind_27 rfl ?_
          refine k_iload_n C 31 1 rfl rfl dX2_isOfKind_30 rfl ?_
          refine k_kabl C 32 3 rfl (by omega) (v := 0) rfl dX2_isOfKind_31 rfl ?_
          refine k_istore_n C 33 [(2, .int 0), (3, .int 0), (0, .ref (ga g k)), (1, .int q)] rfl (by decide) rfl dX2_isOfKind_32 rfl ?_
          refine k_iinc C 36 (1) 1 [(3, .int 1), (2, .int 0), (0, .ref (ga g k)), (1, .int q)] rfl (by decide) (by decide) rfl dX2_isOfKind_33 rfl ?_
          refine k_goto C 7 dX2_isOfKind_36 (by decide) ?_
          refine k_iload_n C 8 0 rfl rfl dX2_isOfKind_7 rfl ?_
          refine k_bipush C 10 (v := 7) (by decide) dX2_isOfKind_8 rfl ?_
          refine k_icmp_ge C 39 13 dX2_isOfKind_10 (by decide) rfl (fun c10x => ?_) (fun d10x => ?_)
          · skip
            exact absurd c10x (by decide)
          · skip
            refine k_iload_n C 14 1 rfl rfl dX2_isOfKind_13 rfl ?_
            refine k_callNE C 17 (As := [.int 0]) (st := []) nwX2_24 skX9_isKind (qX9_isKind l g M 0) mlX9_isKind (by decide) (by decide) rfl rfl (Nat.le_of_ble_eq_true rfl) dX2_isOfKind_14 rfl ?_
            refine k_teq (show _ = (1 : Int32) by decide) ?_
            refine k_if_eq C 39 20 dX2_isOfKind_17 (by decide) rfl (fun c17x => ?_) (fun d17x => ?_)
            · skip
              exact absurd c17x (by decide)
            · skip
              refine k_iload_n C 21 1 rfl rfl dX2_isOfKind_20 rfl ?_
              refine k_iload_n C 22 3 rfl rfl dX2_isOfKind_21 rfl ?_
              refine k_icmp_ne C 27 25 dX2_isOfKind_22 (by decide) rfl (fun c22x => ?_) (fun d22x => ?_)
              · skip
                refine k_kab C 30 nwX2_28 dX2_isOfKind_27 rfl ?_
                refine k_iload_n C 31 1 rfl rfl dX2_isOfKind_30 rfl ?_
                refine k_kabl C 32 0 rfl (by omega) (v := (-1)) rfl dX2_isOfKind_31 rfl ?_
                refine k_istore_n C 33 [(2, .int (-1)), (3, .int 1), (0, .ref (ga g k)), (1, .int q)] rfl (by decide) rfl dX2_isOfKind_32 rfl ?_
                refine k_iinc C 36 (2) 1 [(3, .int 2), (2, .int (-1)), (0, .ref (ga g k)), (1, .int q)] rfl (by decide) (by decide) rfl dX2_isOfKind_33 rfl ?_
                refine k_goto C 7 dX2_isOfKind_36 (by decide) ?_
                refine k_iload_n C 8 0 rfl rfl dX2_isOfKind_7 rfl ?_
                refine k_bipush C 10 (v := 7) (by decide) dX2_isOfKind_8 rfl ?_
                refine k_icmp_ge C 39 13 dX2_isOfKind_10 (by decide) rfl (fun c10xx => ?_) (fun d10xx => ?_)
                · skip
                  exact absurd c10xx (by decide)
                · skip
                  refine k_iload_n C 14 1 rfl rfl dX2_isOfKind_13 rfl ?_
                  refine k_callNE C 17 (As := [.int (-1)]) (st := []) nwX2_24 skX9_isKind (qX9_isKind l g M (-1)) mlX9_isKind (by decide) (by decide) rfl rfl (Nat.le_of_ble_eq_true rfl) dX2_isOfKind_14 rfl ?_
                  refine k_teq (show _ = (0 : Int32) by decide) ?_
                  refine k_if_eq C 39 20 dX2_isOfKind_17 (by decide) rfl (fun c17xx => ?_) (fun d17xx => ?_)
                  · skip
                    refine k_iconst C 40 (v := 0) (by decide) dX2_isOfKind_39 rfl ?_
                    refine k_ret C rfl dX2_isOfKind_40 ?_
                    exact ⟨b2i_neg (by first | (simp [pOf, h3, d10, d17, c22, d10x, d17x, c22x, d10xx, c17xx]; done) | (simp [pOf, h3] <;> simp only [Int32.lt_iff_toInt_lt, Int32.le_iff_toInt_le, ← Int32.toInt_inj, Int32.reduceToInt] at d10 d17 c22 d10x d17x c22x d10xx c17xx ⊢ <;> omega)), rfl⟩
                  · skip
                    exact absurd d17xx (by decide)
              · skip
                refine k_iconst C 26 (v := 1) (by decide) dX2_isOfKind_25 rfl ?_
                refine k_ret C rfl dX2_isOfKind_26 ?_
                exact ⟨b2i_pos (by first | (simp [pOf, h3, d10, d17, c22, d10x, d17x, d22x]; done) | (simp [pOf, h3] <;> simp only [Int32.lt_iff_toInt_lt, Int32.le_iff_toInt_le, ← Int32.toInt_inj, Int32.reduceToInt] at d10 d17 c22 d10x d17x d22x ⊢ <;> omega)), rfl⟩
        · skip
          refine k_iconst C 26 (v := 1) (by decide) dX2_isOfKind_25 rfl ?_
          refine k_ret C rfl dX2_isOfKind_26 ?_
          exact ⟨b2i_pos (by first | (simp [pOf, h3, d10, d17, d22]; done) | (simp [pOf, h3] <;> simp only [Int32.lt_iff_toInt_lt, Int32.le_iff_toInt_le, ← Int32.toInt_inj, Int32.reduceToInt] at d10 d17 d22 ⊢ <;> omega)), rfl⟩
  · skip
    refine k_teq h4 ?_
    refine k_istore_n C 5 [(2, .int 4), (0, .ref (ga g k)), (1, .int q)] rfl (by decide) rfl dX2_isOfKind_4 rfl ?_
    refine k_iconst C 6 (v := 0) (by decide) dX2_isOfKind_5 rfl ?_
    refine k_istore_n C 7 [(3, .int 0), (2, .int 4), (0, .ref (ga g k)), (1, .int q)] rfl (by decide) rfl dX2_isOfKind_6 rfl ?_
    refine k_iload_n C 8 0 rfl rfl dX2_isOfKind_7 rfl ?_
    refine k_bipush C 10 (v := 7) (by decide) dX2_isOfKind_8 rfl ?_
    refine k_icmp_ge C 39 13 dX2_isOfKind_10 (by decide) rfl (fun c10 => ?_) (fun d10 => ?_)
    · skip
      exact absurd c10 (by decide)
    · skip
      refine k_iload_n C 14 1 rfl rfl dX2_isOfKind_13 rfl ?_
      refine k_callNE C 17 (As := [.int 4]) (st := []) nwX2_24 skX9_isKind (qX9_isKind l g M 4) mlX9_isKind (by decide) (by decide) rfl rfl (Nat.le_of_ble_eq_true rfl) dX2_isOfKind_14 rfl ?_
      refine k_teq (show _ = (1 : Int32) by decide) ?_
      refine k_if_eq C 39 20 dX2_isOfKind_17 (by decide) rfl (fun c17 => ?_) (fun d17 => ?_)
      · skip
        exact absurd c17 (by decide)
      · skip
        refine k_iload_n C 21 1 rfl rfl dX2_isOfKind_20 rfl ?_
        refine k_iload_n C 22 3 rfl rfl dX2_isOfKind_21 rfl ?_
        refine k_icmp_ne C 27 25 dX2_isOfKind_22 (by decide) rfl (fun c22 => ?_) (fun d22 => ?_)
        · skip
          refine k_kab C 30 nwX2_28 dX2_isOfKind_27 rfl ?_
          refine k_iload_n C 31 1 rfl rfl dX2_isOfKind_30 rfl ?_
          refine k_kabl C 32 4 rfl (by omega) (v := 1) rfl dX2_isOfKind_31 rfl ?_
          refine k_istore_n C 33 [(2, .int 1), (3, .int 0), (0, .ref (ga g k)), (1, .int q)] rfl (by decide) rfl dX2_isOfKind_32 rfl ?_
          refine k_iinc C 36 (1) 1 [(3, .int 1), (2, .int 1), (0, .ref (ga g k)), (1, .int q)] rfl (by decide) (by decide) rfl dX2_isOfKind_33 rfl ?_
          refine k_goto C 7 dX2_isOfKind_36 (by decide) ?_
          refine k_iload_n C 8 0 rfl rfl dX2_isOfKind_7 rfl ?_
          refine k_bipush C 10 (v := 7) (by decide) dX2_isOfKind_8 rfl ?_
          refine k_icmp_ge C 39 13 dX2_isOfKind_10 (by decide) rfl (fun c10x => ?_) (fun d10x => ?_)
          · skip
            exact absurd c10x (by decide)
          · skip
            refine k_iload_n C 14 1 rfl rfl dX2_isOfKind_13 rfl ?_
            refine k_callNE C 17 (As := [.int 1]) (st := []) nwX2_24 skX9_isKind (qX9_isKind l g M 1) mlX9_isKind (by decide) (by decide) rfl rfl (Nat.le_of_ble_eq_true rfl) dX2_isOfKind_14 rfl ?_
            refine k_teq (show _ = (1 : Int32) by decide) ?_
            refine k_if_eq C 39 20 dX2_isOfKind_17 (by decide) rfl (fun c17x => ?_) (fun d17x => ?_)
            · skip
              exact absurd c17x (by decide)
            · skip
              refine k_iload_n C 21 1 rfl rfl dX2_isOfKind_20 rfl ?_
              refine k_iload_n C 22 3 rfl rfl dX2_isOfKind_21 rfl ?_
              refine k_icmp_ne C 27 25 dX2_isOfKind_22 (by decide) rfl (fun c22x => ?_) (fun d22x => ?_)
              · skip
                refine k_kab C 30 nwX2_28 dX2_isOfKind_27 rfl ?_
                refine k_iload_n C 31 1 rfl rfl dX2_isOfKind_30 rfl ?_
                refine k_kabl C 32 1 rfl (by omega) (v := 0) rfl dX2_isOfKind_31 rfl ?_
                refine k_istore_n C 33 [(2, .int 0), (3, .int 1), (0, .ref (ga g k)), (1, .int q)] rfl (by decide) rfl dX2_isOfKind_32 rfl ?_
                refine k_iinc C 36 (2) 1 [(3, .int 2), (2, .int 0), (0, .ref (ga g k)), (1, .int q)] rfl (by decide) (by decide) rfl dX2_isOfKind_33 rfl ?_
                refine k_goto C 7 dX2_isOfKind_36 (by decide) ?_
                refine k_iload_n C 8 0 rfl rfl dX2_isOfKind_7 rfl ?_
                refine k_bipush C 10 (v := 7) (by decide) dX2_isOfKind_8 rfl ?_
                refine k_icmp_ge C 39 13 dX2_isOfKind_10 (by decide) rfl (fun c10xx => ?_) (fun d10xx => ?_)
                · skip
                  exact absurd c10xx (by decide)
                · skip
                  refine k_iload_n C 14 1 rfl rfl dX2_isOfKind_13 rfl ?_
                  refine k_callNE C 17 (As := [.int 0]) (st := []) nwX2_24 skX9_isKind (qX9_isKind l g M 0) mlX9_isKind (by decide) (by decide) rfl rfl (Nat.le_of_ble_eq_true rfl) dX2_isOfKind_14 rfl ?_
                  refine k_teq (show _ = (1 : Int32) by decide) ?_
                  refine k_if_eq C 39 20 dX2_isOfKind_17 (by decide) rfl (fun c17xx => ?_) (fun d17xx => ?_)
                  · skip
                    exact absurd c17xx (by decide)
                  · skip
                    refine k_iload_n C 21 1 rfl rfl dX2_isOfKind_20 rfl ?_
                    refine k_iload_n C 22 3 rfl rfl dX2_isOfKind_21 rfl ?_
                    refine k_icmp_ne C 27 25 dX2_isOfKind_22 (by decide) rfl (fun c22xx => ?_) (fun d22xx => ?_)
                    · skip
                      refine k_kab C 30 nwX2_28 dX2_isOfKind_27 rfl ?_
                      refine k_iload_n C 31 1 rfl rfl dX2_isOfKind_30 rfl ?_
                      refine k_kabl C 32 0 rfl (by omega) (v := (-1)) rfl dX2_isOfKind_31 rfl ?_
                      refine k_istore_n C 33 [(2, .int (-1)), (3, .int 2), (0, .ref (ga g k)), (1, .int q)] rfl (by decide) rfl dX2_isOfKind_32 rfl ?_
                      refine k_iinc C 36 (3) 1 [(3, .int 3), (2, .int (-1)), (0, .ref (ga g k)), (1, .int q)] rfl (by decide) (by decide) rfl dX2_isOfKind_33 rfl ?_
                      refine k_goto C 7 dX2_isOfKind_36 (by decide) ?_
                      refine k_iload_n C 8 0 rfl rfl dX2_isOfKind_7 rfl ?_
                      refine k_bipush C 10 (v := 7) (by decide) dX2_isOfKind_8 rfl ?_
                      refine k_icmp_ge C 39 13 dX2_isOfKind_10 (by decide) rfl (fun c10xxx => ?_) (fun d10xxx => ?_)
                      · skip
                        exact absurd c10xxx (by decide)
                      · skip
                        refine k_iload_n C 14 1 rfl rfl dX2_isOfKind_13 rfl ?_
                        refine k_callNE C 17 (As := [.int (-1)]) (st := []) nwX2_24 skX9_isKind (qX9_isKind l g M (-1)) mlX9_isKind (by decide) (by decide) rfl rfl (Nat.le_of_ble_eq_true rfl) dX2_isOfKind_14 rfl ?_
                        refine k_teq (show _ = (0 : Int32) by decide) ?_
                        refine k_if_eq C 39 20 dX2_isOfKind_17 (by decide) rfl (fun c17xxx => ?_) (fun d17xxx => ?_)
                        · skip
                          refine k_iconst C 40 (v := 0) (by decide) dX2_isOfKind_39 rfl ?_
                          refine k_ret C rfl dX2_isOfKind_40 ?_
                          exact ⟨b2i_neg (by first | (simp [pOf, h4, d10, d17, c22, d10x, d17x, c22x, d10xx, d17xx, c22xx, d10xxx, c17xxx]; done) | (simp [pOf, h4] <;> simp only [Int32.lt_iff_toInt_lt, Int32.le_iff_toInt_le, ← Int32.toInt_inj, Int32.reduceToInt] at d10 d17 c22 d10x d17x c22x d10xx d17xx c22xx d10xxx c17xxx ⊢ <;> omega)), rfl⟩
                        · skip
                          exact absurd d17xxx (by decide)
                    · skip
                      refine k_iconst C 26 (v := 1) (by decide) dX2_isOfKind_25 rfl ?_
                      refine k_ret C rfl dX2_isOfKind_26 ?_
                      exact ⟨b2i_pos (by first | (simp [pOf, h4, d10, d17, c22, d10x, d17x, c22x, d10xx, d17xx, d22xx]; done) | (simp [pOf, h4] <;> simp only [Int32.lt_iff_toInt_lt, Int32.le_iff_toInt_le, ← Int32.toInt_inj, Int32.reduceToInt] at d10 d17 c22 d10x d17x c22x d10xx d17xx d22xx ⊢ <;> omega)), rfl⟩
              · skip
                refine k_iconst C 26 (v := 1) (by decide) dX2_isOfKind_25 rfl ?_
                refine k_ret C rfl dX2_isOfKind_26 ?_
                exact ⟨b2i_pos (by first | (simp [pOf, h4, d10, d17, c22, d10x, d17x, d22x]; done) | (simp [pOf, h4] <;> simp only [Int32.lt_iff_toInt_lt, Int32.le_iff_toInt_le, ← Int32.toInt_inj, Int32.reduceToInt] at d10 d17 c22 d10x d17x d22x ⊢ <;> omega)), rfl⟩
        · skip
          refine k_iconst C 26 (v := 1) (by decide) dX2_isOfKind_25 rfl ?_
          refine k_ret C rfl dX2_isOfKind_26 ?_
          exact ⟨b2i_pos (by first | (simp [pOf, h4, d10, d17, d22]; done) | (simp [pOf, h4] <;> simp only [Int32.lt_iff_toInt_lt, Int32.le_iff_toInt_le, ← Int32.toInt_inj, Int32.reduceToInt] at d10 d17 d22 ⊢ <;> omega)), rfl⟩
  · skip
    refine k_teq h5 ?_
    refine k_istore_n C 5 [(2, .int 5), (0, .ref (ga g k)), (1, .int q)] rfl (by decide) rfl dX2_isOfKind_4 rfl ?_
    refine k_iconst C 6 (v := 0) (by decide) dX2_isOfKind_5 rfl ?_
    refine k_istore_n C 7 [(3, .int 0), (2, .int 5), (0, .ref (ga g k)), (1, .int q)] rfl (by decide) rfl dX2_isOfKind_6 rfl ?_
    refine k_iload_n C 8 0 rfl rfl dX2_isOfKind_7 rfl ?_
    refine k_bipush C 10 (v := 7) (by decide) dX2_isOfKind_8 rfl ?_
    refine k_icmp_ge C 39 13 dX2_isOfKind_10 (by decide) rfl (fun c10 => ?_) (fun d10 => ?_)
    · skip
      exact absurd c10 (by decide)
    · skip
      refine k_iload_n C 14 1 rfl rfl dX2_isOfKind_13 rfl ?_
      refine k_callNE C 17 (As := [.int 5]) (st := []) nwX2_24 skX9_isKind (qX9_isKind l g M 5) mlX9_isKind (by decide) (by decide) rfl rfl (Nat.le_of_ble_eq_true rfl) dX2_isOfKind_14 rfl ?_
      refine k_teq (show _ = (1 : Int32) by decide) ?_
      refine k_if_eq C 39 20 dX2_isOfKind_17 (by decide) rfl (fun c17 => ?_) (fun d17 => ?_)
      · skip
        exact absurd c17 (by decide)
      · skip
        refine k_iload_n C 21 1 rfl rfl dX2_isOfKind_20 rfl ?_
        refine k_iload_n C 22 3 rfl rfl dX2_isOfKind_21 rfl ?_
        refine k_icmp_ne C 27 25 dX2_isOfKind_22 (by decide) rfl (fun c22 => ?_) (fun d22 => ?_)
        · skip
          refine k_kab C 30 nwX2_28 dX2_isOfKind_27 rfl ?_
          refine k_iload_n C 31 1 rfl rfl dX2_isOfKind_30 rfl ?_
          refine k_kabl C 32 5 rfl (by omega) (v := 2) rfl dX2_isOfKind_31 rfl ?_
          refine k_istore_n C 33 [(2, .int 2), (3, .int 0), (0, .ref (ga g k)), (1, .int q)] rfl (by decide) rfl dX2_isOfKind_32 rfl ?_
          refine k_iinc C 36 (1) 1 [(3, .int 1), (2, .int 2), (0, .ref (ga g k)), (1, .int q)] rfl (by decide) (by decide) rfl dX2_isOfKind_33 rfl ?_
          refine k_goto C 7 dX2_isOfKind_36 (by decide) ?_
          refine k_iload_n C 8 0 rfl rfl dX2_isOfKind_7 rfl ?_
          refine k_bipush C 10 (v := 7) (by decide) dX2_isOfKind_8 rfl ?_
          refine k_icmp_ge C 39 13 dX2_isOfKind_10 (by decide) rfl (fun c10x => ?_) (fun d10x => ?_)
          · skip
            exact absurd c10x (by decide)
          · skip
            refine k_iload_n C 14 1 rfl rfl dX2_isOfKind_13 rfl ?_
            refine k_callNE C 17 (As := [.int 2]) (st := []) nwX2_24 skX9_isKind (qX9_isKind l g M 2) mlX9_isKind (by decide) (by decide) rfl rfl (Nat.le_of_ble_eq_true rfl) dX2_isOfKind_14 rfl ?_
            refine k_teq (show _ = (1 : Int32) by decide) ?_
            refine k_if_eq C 39 20 dX2_isOfKind_17 (by decide) rfl (fun c17x => ?_) (fun d17x => ?_)
            · skip
              exact absurd c17x (by decide)
            · skip
              refine k_iload_n C 21 1 rfl rfl dX2_isOfKind_20 rfl ?_
              refine k_iload_n C 22 3 rfl rfl dX2_isOfKind_21 rfl ?_
              refine k_icmp_ne C 27 25 dX2_isOfKind_22 (by decide) rfl (fun c22x => ?_) (fun d22x => ?_)
              · skip
                refine k_kab C 30 nwX2_28 dX2_isOfKind_27 rfl ?_
                refine k_iload_n C 31 1 rfl rfl dX2_isOfKind_30 rfl ?_
                refine k_kabl C 32 2 rfl (by omega) (v := 0) rfl dX2_isOfKind_31 rfl ?_
                refine k_istore_n C 33 [(2, .int 0), (3, .int 1), (0, .ref (ga g k)), (1, .int q)] rfl (by decide) rfl dX2_isOfKind_32 rfl ?_
                refine k_iinc C 36 (2) 1 [(3, .int 2), (2, .int 0), (0, .ref (ga g k)), (1, .int q)] rfl (by decide) (by decide) rfl dX2_isOfKind_33 rfl ?_
                refine k_goto C 7 dX2_isOfKind_36 (by decide) ?_
                refine k_iload_n C 8 0 rfl rfl dX2_isOfKind_7 rfl ?_
                refine k_bipush C 10 (v := 7) (by decide) dX2_isOfKind_8 rfl ?_
                refine k_icmp_ge C 39 13 dX2_isOfKind_10 (by decide) rfl (fun c10xx => ?_) (fun d10xx => ?_)
                · skip
                  exact absurd c10xx (by decide)
                · skip
                  refine k_iload_n C 14 1 rfl rfl dX2_isOfKind_13 rfl ?_
                  refine k_callNE C 17 (As := [.int 0]) (st := []) nwX2_24 skX9_isKind (qX9_isKind l g M 0) mlX9_isKind (by decide) (by decide) rfl rfl (Nat.le_of_ble_eq_true rfl) dX2_isOfKind_14 rfl ?_
                  refine k_teq (show _ = (1 : Int32) by decide) ?_
                  refine k_if_eq C 39 20 dX2_isOfKind_17 (by decide) rfl (fun c17xx => ?_) (fun d17xx => ?_)
                  · skip
                    exact absurd c17xx (by decide)
                  · skip
                    refine k_iload_n C 21 1 rfl rfl dX2_isOfKind_20 rfl ?_
                    refine k_iload_n C 22 3 rfl rfl dX2_isOfKind_21 rfl ?_
                    refine k_icmp_ne C 27 25 dX2_isOfKind_22 (by decide) rfl (fun c22xx => ?_) (fun d22xx => ?_)
                    · skip
                      refine k_kab C 30 nwX2_28 dX2_isOfKind_27 rfl ?_
                      refine k_iload_n C 31 1 rfl rfl dX2_isOfKind_30 rfl ?_
                      refine k_kabl C 32 0 rfl (by omega) (v := (-1)) rfl dX2_isOfKind_31 rfl ?_
                      refine k_istore_n C 33 [(2, .int (-1)), (3, .int 2), (0, .ref (ga g k)), (1, .int q)] rfl (by decide) rfl dX2_isOfKind_32 rfl ?_
                      refine k_iinc C 36 (3) 1 [(3, .int 3), (2, .int (-1)), (0, .ref (ga g k)), (1, .int q)] rfl (by decide) (by decide) rfl dX2_isOfKind_33 rfl ?_
                      refine k_goto C 7 dX2_isOfKind_36 (by decide) ?_
                      refine k_iload_n C 8 0 rfl rfl dX2_isOfKind_7 rfl ?_
                      refine k_bipush C 10 (v := 7) (by decide) dX2_isOfKind_8 rfl ?_
                      refine k_icmp_ge C 39 13 dX2_isOfKind_10 (by decide) rfl (fun c10xxx => ?_) (fun d10xxx => ?_)
                      · skip
                        exact absurd c10xxx (by decide)
                      · skip
                        refine k_iload_n C 14 1 rfl rfl dX2_isOfKind_13 rfl ?_
                        refine k_callNE C 17 (As := [.int (-1)]) (st := []) nwX2_24 skX9_isKind (qX9_isKind l g M (-1)) mlX9_isKind (by decide) (by decide) rfl rfl (Nat.le_of_ble_eq_true rfl) dX2_isOfKind_14 rfl ?_
                        refine k_teq (show _ = (0 : Int32) by decide) ?_
                        refine k_if_eq C 39 20 dX2_isOfKind_17 (by decide) rfl (fun c17xxx => ?_) (fun d17xxx => ?_)
                        · skip
                          refine k_iconst C 40 (v := 0) (by decide) dX2_isOfKind_39 rfl ?_
                          refine k_ret C rfl dX2_isOfKind_40 ?_
                          exact ⟨b2i_neg (by first | (simp [pOf, h5, d10, d17, c22, d10x, d17x, c22x, d10xx, d17xx, c22xx, d10xxx, c17xxx]; done) | (simp [pOf, h5] <;> simp only [Int32.lt_iff_toInt_lt, Int32.le_iff_toInt_le, ← Int32.toInt_inj, Int32.reduceToInt] at d10 d17 c22 d10x d17x c22x d10xx d17xx c22xx d10xxx c17xxx ⊢ <;> omega)), rfl⟩
                        · skip
                          exact absurd d17xxx (by decide)
                    · skip
                      refine k_iconst C 26 (v := 1) (by decide) dX2_isOfKind_25 rfl ?_
                      refine k_ret C rfl dX2_isOfKind_26 ?_
                      exact ⟨b2i_pos (by first | (simp [pOf, h5, d10, d17, c22, d10x, d17x, c22x, d10xx, d17xx, d22xx]; done) | (simp [pOf, h5] <;> simp only [Int32.lt_iff_toInt_lt, Int32.le_iff_toInt_le, ← Int32.toInt_inj, Int32.reduceToInt] at d10 d17 c22 d10x d17x c22x d10xx d17xx d22xx ⊢ <;> omega)), rfl⟩
              · skip
                refine k_iconst C 26 (v := 1) (by decide) dX2_isOfKind_25 rfl ?_
                refine k_ret C rfl dX2_isOfKind_26 ?_
                exact ⟨b2i_pos (by first | (simp [pOf, h5, d10, d17, c22, d10x, d17x, d22x]; done) | (simp [pOf, h5] <;> simp only [Int32.lt_iff_toInt_lt, Int32.le_iff_toInt_le, ← Int32.toInt_inj, Int32.reduceToInt] at d10 d17 c22 d10x d17x d22x ⊢ <;> omega)), rfl⟩
        · skip
          refine k_iconst C 26 (v := 1) (by decide) dX2_isOfKind_25 rfl ?_
          refine k_ret C rfl dX2_isOfKind_26 ?_
          exact ⟨b2i_pos (by first | (simp [pOf, h5, d10, d17, d22]; done) | (simp [pOf, h5] <;> simp only [Int32.lt_iff_toInt_lt, Int32.le_iff_toInt_le, ← Int32.toInt_inj, Int32.reduceToInt] at d10 d17 d22 ⊢ <;> omega)), rfl⟩
  · skip
    refine k_teq h6 ?_
    refine k_istore_n C 5 [(2, .int 6), (0, .ref (ga g k)), (1, .int q)] rfl (by decide) rfl dX2_isOfKind_4 rfl ?_
    refine k_iconst C 6 (v := 0) (by decide) dX2_isOfKind_5 rfl ?_
    refine k_istore_n C 7 [(3, .int 0), (2, .int 6), (0, .ref (ga g k)), (1, .int q)] rfl (by decide) rfl dX2_isOfKind_6 rfl ?_
    refine k_iload_n C 8 0 rfl rfl dX2_isOfKind_7 rfl ?_
    refine k_bipush C 10 (v := 7) (by decide) dX2_isOfKind_8 rfl ?_
    refine k_icmp_ge C 39 13 dX2_isOfKind_10 (by decide) rfl (fun c10 => ?_) (fun d10 => ?_)
    · skip
      exact absurd c10 (by decide)
    · skip
      refine k_iload_n C 14 1 rfl rfl dX2_isOfKind_13 rfl ?_
      refine k_callNE C 17 (As := [.int 6]) (st := []) nwX2_24 skX9_isKind (qX9_isKind l g M 6) mlX9_isKind (by decide) (by decide) rfl rfl (Nat.le_of_ble_eq_true rfl) dX2_isOfKind_14 rfl ?_
      refine k_teq (show _ = (1 : Int32) by decide) ?_
      refine k_if_eq C 39 20 dX2_isOfKind_17 (by decide) rfl (fun c17 => ?_) (fun d17 => ?_)
      · skip
        exact absurd c17 (by decide)
      · skip
        refine k_iload_n C 21 1 rfl rfl dX2_isOfKind_20 rfl ?_
        refine k_iload_n C 22 3 rfl rfl dX2_isOfKind_21 rfl ?_
        refine k_icmp_ne C 27 25 dX2_isOfKind_22 (by decide) rfl (fun c22 => ?_) (fun d22 => ?_)
        · skip
          refine k_kab C 30 nwX2_28 dX2_isOfKind_27 rfl ?_
          refine k_iload_n C 31 1 rfl rfl dX2_isOfKind_30 rfl ?_
          refine k_kabl C 32 6 rfl (by omega) (v := 0) rfl dX2_isOfKind_31 rfl ?_
          refine k_istore_n C 33 [(2, .int 0), (3, .int 0), (0, .ref (ga g k)), (1, .int q)] rfl (by decide) rfl dX2_isOfKind_32 rfl ?_
          refine k_iinc C 36 (1) 1 [(3, .int 1), (2, .int 0), (0, .ref (ga g k)), (1, .int q)] rfl (by decide) (by decide) rfl dX2_isOfKind_33 rfl ?_
          refine k_goto C 7 dX2_isOfKind_36 (by decide) ?_
          refine k_iload_n C 8 0 rfl rfl dX2_isOfKind_7 rfl ?_
          refine k_bipush C 10 (v := 7) (by decide) dX2_isOfKind_8 rfl ?_
          refine k_icmp_ge C 39 13 dX2_isOfKind_10 (by decide) rfl (fun c10x => ?_) (fun d10x => ?_)
          · skip
            exact absurd c10x (by decide)
          · skip
            refine k_iload_n C 14 1 rfl rfl dX2_isOfKind_13 rfl ?_
            refine k_callNE C 17 (As := [.int 0]) (st := []) nwX2_24 skX9_isKind (qX9_isKind l g M 0) mlX9_isKind (by decide) (by decide) rfl rfl (Nat.le_of_ble_eq_true rfl) dX2_isOfKind_14 rfl ?_
            refine k_teq (show _ = (1 : Int32) by decide) ?_
            refine k_if_eq C 39 20 dX2_isOfKind_17 (by decide) rfl (fun c17x => ?_) (fun d17x => ?_)
            · skip
              exact absurd c17x (by decide)
            · skip
              refine k_iload_n C 21 1 rfl rfl dX2_isOfKind_20 rfl ?_
              refine k_iload_n C 22 3 rfl rfl dX2_isOfKind_21 rfl ?_
              refine k_icmp_ne C 27 25 dX2_isOfKind_22 (by decide) rfl (fun c22x => ?_) (fun d22x => ?_)
              · skip
                refine k_kab C 30 nwX2_28 dX2_isOfKind_27 rfl ?_
                refine k_iload_n C 31 1 rfl rfl dX2_isOfKind_30 rfl ?_
                refine k_kabl C 32 0 rfl (by omega) (v := (-1)) rfl dX2_isOfKind_31 rfl ?_
                refine k_istore_n C 33 [(2, .int (-1)), (3, .int 1), (0, .ref (ga g k)), (1, .int q)] rfl (by decide) rfl dX2_isOfKind_32 rfl ?_
                refine k_iinc C 36 (2) 1 [(3, .int 2), (2, .int (-1)), (0, .ref (ga g k)), (1, .int q)] rfl (by decide) (by decide) rfl dX2_isOfKind_33 rfl ?_
                refine k_goto C 7 dX2_isOfKind_36 (by decide) ?_
                refine k_iload_n C 8 0 rfl rfl dX2_isOfKind_7 rfl ?_
                refine k_bipush C 10 (v := 7) (by decide) dX2_isOfKind_8 rfl ?_
                refine k_icmp_ge C 39 13 dX2_isOfKind_10 (by decide) rfl (fun c10xx => ?_) (fun d10xx => ?_)
                · skip
                  exact absurd c10xx (by decide)
                · skip
                  refine k_iload_n C 14 1 rfl rfl dX2_isOfKind_13 rfl ?_
                  refine k_callNE C 17 (As := [.int (-1)]) (st := []) nwX2_24 skX9_isKind (qX9_isKind l g M (-1)) mlX9_isKind (by decide) (by decide) rfl rfl (Nat.le_of_ble_eq_true rfl) dX2_isOfKind_14 rfl ?_
                  refine k_teq (show _ = (0 : Int32) by decide) ?_
                  refine k_if_eq C 39 20 dX2_isOfKind_17 (by decide) rfl (fun c17xx => ?_) (fun d17xx => ?_)
                  · skip
                    refine k_iconst C 40 (v := 0) (by decide) dX2_isOfKind_39 rfl ?_
                    refine k_ret C rfl dX2_isOfKind_40 ?_
                    exact ⟨b2i_neg (by first | (simp [pOf, h6, d10, d17, c22, d10x, d17x, c22x, d10xx, c17xx]; done) | (simp [pOf, h6] <;> simp only [Int32.lt_iff_toInt_lt, Int32.le_iff_toInt_le, ← Int32.toInt_inj, Int32.reduceToInt] at d10 d17 c22 d10x d17x c22x d10xx c17xx ⊢ <;> omega)), rfl⟩
                  · skip
                    exact absurd d17xx (by decide)
              · skip
                refine k_iconst C 26 (v := 1) (by decide) dX2_isOfKind_25 rfl ?_
                refine k_ret C rfl dX2_isOfKind_26 ?_
                exact ⟨b2i_pos (by first | (simp [pOf, h6, d10, d17, c22, d10x, d17x, d22x]; done) | (simp [pOf, h6] <;> simp only [Int32.lt_iff_toInt_lt, Int32.le_iff_toInt_le, ← Int32.toInt_inj, Int32.reduceToInt] at d10 d17 c22 d10x d17x d22x ⊢ <;> omega)), rfl⟩
        · skip
          refine k_iconst C 26 (v := 1) (by decide) dX2_isOfKind_25 rfl ?_
          refine k_ret C rfl dX2_isOfKind_26 ?_
          exact ⟨b2i_pos (by first | (simp [pOf, h6, d10, d17, d22]; done) | (simp [pOf, h6] <;> simp only [Int32.lt_iff_toInt_lt, Int32.le_iff_toInt_le, ← Int32.toInt_inj, Int32.reduceToInt] at d10 d17 d22 ⊢ <;> omega)), rfl⟩
