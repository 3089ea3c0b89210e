-- the reference: pure words on its row of numbers
theorem mF_mu (M : Mem) (q : Nat) (x : Int32) (f w : Nat) : mF (mu M 92 q x) f w = if 6 + 7 * f + w = q then x else mF M f w := by
  unfold mF; rw [mu_at]; simp
theorem mF_o (M : Mem) {a : Nat} (q : Nat) (x : Int32) (h : 92 ≠ a) : mF (mu M a q x) = mF M := by
  funext f w; unfold mF; rw [mu_n _ _ _ h]
def pIsF (n : Nat) (f : Int32) : Bool := decide (0 ≤ f) && decide (f < nI n)
theorem pIsF_in {n : Nat} (hn : n ≤ 12) {f : Int32} (h : pIsF n f = true) : ∃ j, j < n ∧ f = nI j := by
  simp only [pIsF, Bool.and_eq_true, decide_eq_true_eq] at h
  obtain ⟨j, hj, rfl⟩ := nI_of (x := f) (Int32.not_lt.mpr h.1)
  exact ⟨j, (nI_ltI hj (by omega)).mp h.2, rfl⟩
theorem pIsF_nI {n j : Nat} (hn : n ≤ 12) (hj : j < 2 ^ 31) : pIsF n (nI j) = decide (j < n) := by
  unfold pIsF
  have h1 : (0 : Int32) ≤ nI j := nI_pos' hj
  by_cases h : j < n
  · have := (nI_ltI hj (by omega : n < 2 ^ 31)).mpr h
    simp [h1, h, this]
  · have : ¬ nI j < nI n := fun q => h ((nI_ltI hj (by omega)).mp q)
    simp [h1, h, this]
theorem pIsF_m {n : Nat} (hn : n ≤ 12) (f : Int32) : (decide (0 ≤ f) && decide (f ≤ nI n - 1)) = pIsF n f := by
  unfold pIsF
  congr 1
  have e : (nI n - 1).toInt = (n : Int) - 1 := by
    rw [show (1 : Int32) = nI 1 from rfl, pk_sub_toInt (by omega) (by decide)]; rfl
  have e2 : (nI n).toInt = n := nI_toInt (by omega)
  rw [decide_eq_decide, Int32.le_iff_toInt_le, Int32.lt_iff_toInt_lt, e, e2]
  omega
def pKm (x : Int32) : Bool := decide (0 ≤ x) && decide (x < 70)
def pLine (x : Int32) : Bool := decide (10 ≤ x) && decide (x / 10 ≤ 12) && decide (x - x / 10 * 10 < 6)
theorem pLine_nI {k : Nat} (hk : k < 2 ^ 31) : pLine (nI k) = decide (10 ≤ k ∧ k / 10 ≤ 12 ∧ k % 10 < 6) := by
  have e1 : nI k / 10 = nI (k / 10) := pk_div hk (by decide) (by decide)
  have e2 : nI k - nI k / 10 * 10 = nI (k % 10) := pk_rem hk (by decide) (by decide)
  unfold pLine
  rw [e2, e1, show decide (10 ≤ nI k) = decide (10 ≤ k) from decide_eq_decide.mpr (nI_leI (a := 10) (by decide) hk), show decide (nI (k / 10) ≤ 12) = decide (k / 10 ≤ 12) from decide_eq_decide.mpr (nI_leI (b := 12) (by omega) (by decide)), show decide (nI (k % 10) < 6) = decide (k % 10 < 6) from decide_eq_decide.mpr (nI_ltI (b := 6) (by omega) (by decide))]
  by_cases h1 : 10 ≤ k <;> by_cases h2 : k / 10 ≤ 12 <;> by_cases h3 : k % 10 < 6 <;> simp [h1, h2, h3]
theorem pLine_in {x : Int32} (h : pLine x = true) : ∃ k, k < 126 ∧ 10 ≤ k ∧ k % 10 < 6 ∧ x = nI k := by
  have h0 := h
  simp only [pLine, Bool.and_eq_true, decide_eq_true_eq] at h
  obtain ⟨k, hk, rfl⟩ := nI_of (x := x) (fun q => by
    have := h.1.1
    simp only [Int32.lt_iff_toInt_lt, Int32.le_iff_toInt_le, Int32.reduceToInt] at this q; omega)
  rw [pLine_nI hk] at h0
  have := of_decide_eq_true h0
  exact ⟨k, by omega, this.1, this.2.2, rfl⟩
theorem pLine_m (x : Int32) : ((decide (10 ≤ x) && decide (x ≤ 125)) && decide (x - x / 10 * 10 ≤ 5)) = pLine x := by
  by_cases h : x < 0
  · have h2 : ¬ 10 ≤ x := by simp only [Int32.lt_iff_toInt_lt, Int32.le_iff_toInt_le, Int32.reduceToInt] at h ⊢; omega
    simp [pLine, h2]
  · obtain ⟨k, hk, rfl⟩ := nI_of h
    have e2 : nI k - nI k / 10 * 10 = nI (k % 10) := pk_rem hk (by decide) (by decide)
    rw [pLine_nI hk, e2, show decide (10 ≤ nI k) = decide (10 ≤ k) from decide_eq_decide.mpr (nI_leI (a := 10) (by decide) hk), show decide (nI k ≤ 125) = decide (k ≤ 125) from decide_eq_decide.mpr (nI_leI (b := 125) hk (by decide)), show decide (nI (k % 10) ≤ 5) = decide (k % 10 ≤ 5) from decide_eq_decide.mpr (nI_leI (b := 5) (by omega) (by decide))]
    rw [← Bool.decide_and, ← Bool.decide_and, decide_eq_decide]
    omega
theorem i_or0 (x : Int32) : x ||| 0 = x := by
  apply Int32.toBitVec_inj.mp
  rw [Int32.toBitVec_or]
  simp
def cpA (i : Nat) (f g : Nat → Int32) : Nat → Int32 := fun k => if k < i then f k else g k
theorem cpA_s (N : Mem) (b i : Nat) (f : Nat → Int32) (g : Nat → Int32) (h : N b = cpA i f g) : mu N b i (f i) = mrow N b (cpA (i + 1) f g) := by
  funext a
  by_cases e : a = b
  · subst e
    rw [mu_r, mrow_s, h]
    funext j
    unfold upd cpA
    by_cases h1 : j = i
    · subst h1; simp
    · by_cases h2 : j < i
      · simp [h1, h2, show j < i + 1 by omega]
      · simp [h1, h2, show ¬ j < i + 1 by omega]
  · rw [mu_n _ _ _ e, mrow_n _ _ e]
theorem mrow_mrow (M : Mem) (b : Nat) (f g : Nat → Int32) : mrow (mrow M b f) b g = mrow M b g := by
  funext a; by_cases e : a = b
  · subst e; rw [mrow_s, mrow_s]
  · rw [mrow_n _ _ e, mrow_n _ _ e, mrow_n _ _ e]
theorem mrow_id (M : Mem) (b : Nat) : mrow M b (M b) = M := by
  funext a; by_cases e : a = b
  · subst e; rw [mrow_s]
  · rw [mrow_n _ _ e]
/-- who is heard, as a set -/
def pHS (F : Nat → Nat → Int32) (n : Nat) : Nat → Nat
  | 0 => 0
  | i + 1 => if pHeard F n i then pHS F n i + 2 ^ i else pHS F n i
theorem pHS_lt (F : Nat → Nat → Int32) (n : Nat) : ∀ i, pHS F n i < 2 ^ i
  | 0 => Nat.one_pos
  | i + 1 => by
    have := pHS_lt F n i
    simp only [pHS]; rw [Nat.pow_succ]; split <;> omega
theorem pHS_bit (F : Nat → Nat → Int32) (n : Nat) : ∀ m i, i < m → pHS F n m / 2 ^ i % 2 = if pHeard F n i then 1 else 0
  | 0, _, h => absurd h (Nat.not_lt_zero _)
  | m + 1, i, h => by
    by_cases e : i = m
    · subst e
      have hl := pHS_lt F n i
      simp only [pHS]
      split
      · rw [Nat.add_div_right _ (Nat.two_pow_pos i), Nat.div_eq_of_lt hl]
      · rw [Nat.div_eq_of_lt hl]
    · have ih := pHS_bit F n m i (by omega)
      simp only [pHS]
      split
      · rw [show 2 ^ m = 2 ^ i * (2 * 2 ^ (m - i - 1)) by rw [← Nat.mul_assoc, Nat.mul_comm (2 ^ i) 2, ← Nat.pow_succ', ← Nat.pow_add]; congr 1; omega, Nat.add_mul_div_left _ _ (Nat.two_pow_pos i), Nat.add_mod, ih]
        simp
        split <;> simp
      · exact ih
theorem shr_bit : ∀ i, i < 12 → ∀ a, a < 64 → ∀ b, b < 64 → (nI (64 * a + b) >>> (nI i &&& 31)) &&& 1 = nI ((64 * a + b) / 2 ^ i % 2) := by decide +kernel
def pUnhM (pat : Int32) (f : Nat → Int32) : Nat → Int32 := upd (upd f 5 (pHold (f 5 + 1) 0 99)) 6 (if pat ≤ pHold (f 5 + 1) 0 99 then 1 else 0)
def pYRm (F : Nat → Nat → Int32) (n : Nat) (pat : Int32) (i : Nat) : Nat → Int32 := if i < n ∧ F i 6 = 0 ∧ pHeard F n i = false then pUnhM pat (F i) else F i
def goesTo (M M1 : Mem) (n : Nat) (pat : Int32) : Prop := (∀ i, i < n → ∀ j, j < 7 → mF M1 i j = pYRm (mF M) n pat i j) ∧ M1 92 0 = M 92 0 + 1 ∧ (∀ q, ¬ (6 ≤ q ∧ q < 6 + 7 * n) → q ≠ 0 → M1 92 q = M 92 q) ∧ ∀ a, a ≠ 92 → M1 a = M a

theorem shr12 (i : Nat) (hi : i < 12) (m : Nat) (hm : m < 4096) : (nI m >>> (nI i &&& 31)) &&& 1 = nI (m / 2 ^ i % 2) := by
  have := shr_bit i hi (m / 64) (by omega) (m % 64) (by omega)
  rwa [show 64 * (m / 64) + m % 64 = m by omega] at this
/-- one more furrow in the row: its place n, the numbers as they are laid -/
def pCome (M : Mem) (n : Nat) (km lo cr hand : Int32) : Mem := mu (mu (mu (mu (mu (mu (mu (mu M 92 2 (nI (n + 1))) 92 (6 + 7 * n + 0) (km / 10)) 92 (6 + 7 * n + 1) (km - km / 10 * 10)) 92 (6 + 7 * n + 2) lo) 92 (6 + 7 * n + 3) cr) 92 (6 + 7 * n + 4) hand) 92 (6 + 7 * n + 5) 0) 92 (6 + 7 * n + 6) 0

set_option maxHeartbeats 4000000 in
set_option maxRecDepth 20000 in
theorem qX10_in (l : Launch) (g : GT) (M : Mem) (v : Int32) (a : Int32) (b : Int32) : CtrE l g yX10_in cX10_in 3 (some .boolean) 0 [.int v, .int a, .int b] M (b2i (decide (a ≤ v) && decide (v ≤ b))) M := by
  refine ctrI_of (by decide +kernel) (Nat.le_of_ble_eq_true rfl) ?_
  intro pP eE RR sS mI aG bB mE cD C
  refine k_lo (lo' := [(0, .int v), (1, .int a), (2, .int b)]) rfl ?_
  refine k_iload_n C 1 0 rfl rfl dX10_in_0 rfl ?_
  refine k_iload_n C 2 1 rfl rfl dX10_in_1 rfl ?_
  refine k_icmp_lt C 14 5 dX10_in_2 (by decide) rfl (fun c2 => ?_) (fun d2 => ?_)
  · skip
    refine k_iconst C 15 (v := 0) (by decide) dX10_in_14 rfl ?_
    refine k_ret C rfl dX10_in_15 ?_
    exact ⟨b2i_neg (by (simp only [Bool.and_eq_true, Bool.or_eq_true, Bool.and_eq_false_iff, Bool.or_eq_false_iff, decide_eq_true_eq, decide_eq_false_iff_not, Bool.not_eq_true, Bool.not_eq_false, Int32.lt_iff_toInt_lt, Int32.le_iff_toInt_le, ← Int32.toInt_inj, Int32.reduceToInt] at c2 ⊢) <;> omega), rfl⟩
  · skip
    refine k_iload_n C 6 0 rfl rfl dX10_in_5 rfl ?_
    refine k_iload_n C 7 2 rfl rfl dX10_in_6 rfl ?_
    refine k_icmp_gt C 14 10 dX10_in_7 (by decide) rfl (fun c7 => ?_) (fun d7 => ?_)
    · skip
      refine k_iconst C 15 (v := 0) (by decide) dX10_in_14 rfl ?_
      refine k_ret C rfl dX10_in_15 ?_
      exact ⟨b2i_neg (by (simp only [Bool.and_eq_true, Bool.or_eq_true, Bool.and_eq_false_iff, Bool.or_eq_false_iff, decide_eq_true_eq, decide_eq_false_iff_not, Bool.not_eq_true, Bool.not_eq_false, Int32.lt_iff_toInt_lt, Int32.le_iff_toInt_le, ← Int32.toInt_inj, Int32.reduceToInt] at d2 c7 ⊢) <;> omega), rfl⟩
    · skip
      refine k_iconst C 11 (v := 1) (by decide) dX10_in_10 rfl ?_
      refine k_goto C 15 dX10_in_11 (by decide) ?_
      refine k_ret C rfl dX10_in_15 ?_
      exact ⟨b2i_pos (by (simp only [Bool.and_eq_true, Bool.or_eq_true, Bool.and_eq_false_iff, Bool.or_eq_false_iff, decide_eq_true_eq, decide_eq_false_iff_not, Bool.not_eq_true, Bool.not_eq_false, Int32.lt_iff_toInt_lt, Int32.le_iff_toInt_le, ← Int32.toInt_inj, Int32.reduceToInt] at d2 d7 ⊢) <;> omega), rfl⟩
set_option maxHeartbeats 4000000 in
set_option maxRecDepth 20000 in
theorem qX10_held (l : Launch) (g : GT) (M : Mem) (v : Int32) (a : Int32) (b : Int32) : CtrE l g yX10_held cX10_held 3 (some .int) 0 [.int v, .int a, .int b] M (pHold v a b) M := by
  refine ctrI_of (by decide +kernel) (Nat.le_of_ble_eq_true rfl) ?_
  intro pP eE RR sS mI aG bB mE cD C
  refine k_lo (lo' := [(0, .int v), (1, .int a), (2, .int b)]) rfl ?_
  refine k_iload_n C 1 0 rfl rfl dX10_held_0 rfl ?_
  refine k_iload_n C 2 1 rfl rfl dX10_held_1 rfl ?_
  refine k_icmp_ge C 9 5 dX10_held_2 (by decide) rfl (fun c2 => ?_) (fun d2 => ?_)
  · skip
    refine k_iload_n C 10 0 rfl rfl dX10_held_9 rfl ?_
    refine k_iload_n C 11 2 rfl rfl dX10_held_10 rfl ?_
    refine k_icmp_le C 18 14 dX10_held_11 (by decide) rfl (fun c11 => ?_) (fun d11 => ?_)
    · skip
      refine k_iload_n C 19 0 rfl rfl dX10_held_18 rfl ?_
      refine k_ret C rfl dX10_held_19 ?_
      exact ⟨by unfold pHold; (repeat' split) <;> simp only [Int32.lt_iff_toInt_lt, Int32.le_iff_toInt_le] at * <;> first | rfl | (apply Int32.toInt_inj.mp; omega) | omega, rfl⟩
    · skip
      refine k_iload_n C 15 2 rfl rfl dX10_held_14 rfl ?_
      refine k_goto C 19 dX10_held_15 (by decide) ?_
      refine k_ret C rfl dX10_held_19 ?_
      exact ⟨by unfold pHold; (repeat' split) <;> simp only [Int32.lt_iff_toInt_lt, Int32.le_iff_toInt_le] at * <;> first | rfl | (apply Int32.toInt_inj.mp; omega) | omega, rfl⟩
  · skip
    refine k_iload_n C 6 1 rfl rfl dX10_held_5 rfl ?_
    refine k_goto C 19 dX10_held_6 (by decide) ?_
    refine k_ret C rfl dX10_held_19 ?_
    exact ⟨by unfold pHold; (repeat' split) <;> simp only [Int32.lt_iff_toInt_lt, Int32.le_iff_toInt_le] at * <;> first | rfl | (apply Int32.toInt_inj.mp; omega) | omega, rfl⟩
set_option maxHeartbeats 4000000 in
set_option maxRecDepth 20000 in
theorem qX10_isKm (l : Launch) (g : GT) (M : Mem) (x : Int32) : CtrE l g yX10_isKm cX10_isKm 1 (some .boolean) 1 [.int x] M (b2i (pKm x)) M := by
  refine ctrI_of (by decide +kernel) (Nat.le_of_ble_eq_true rfl) ?_
  intro pP eE RR sS mI aG bB mE cD C
  refine k_lo (lo' := [(0, .int x)]) rfl ?_
  refine k_iload_n C 1 0 rfl rfl dX10_isKm_0 rfl ?_
  refine k_iconst C 2 (v := 0) (by decide) dX10_isKm_1 rfl ?_
  refine k_bipush C 4 (v := 69) (by decide) dX10_isKm_2 rfl ?_
  refine k_callSE C 7 (As := [.int x, .int 0, .int 69]) (st := []) mwX10_54 skX10_in (qX10_in l g M x 0 69) mlX10_in (by decide) (by decide) rfl rfl (Nat.le_of_ble_eq_true rfl) dX10_isKm_4 rfl ?_
  refine k_ret C (nar_b2i _) dX10_isKm_7 ?_
  exact ⟨by unfold pKm; congr 1; congr 1; rw [decide_eq_decide, Int32.le_iff_toInt_le, Int32.lt_iff_toInt_lt]; simp only [Int32.reduceToInt]; omega, rfl⟩
set_option maxHeartbeats 4000000 in
set_option maxRecDepth 20000 in
theorem qX10_isLine (l : Launch) (g : GT) (M : Mem) (x : Int32) : CtrE l g yX10_isLine cX10_isLine 1 (some .boolean) 1 [.int x] M (b2i (pLine x)) M := by
  refine ctrI_of (by decide +kernel) (Nat.le_of_ble_eq_true rfl) ?_
  intro pP eE RR sS mI aG bB mE cD C
  refine k_lo (lo' := [(0, .int x)]) rfl ?_
  refine k_iload_n C 1 0 rfl rfl dX10_isLine_0 rfl ?_
  refine k_bipush C 3 (v := 10) (by decide) dX10_isLine_1 rfl ?_
  refine k_bipush C 5 (v := 125) (by decide) dX10_isLine_3 rfl ?_
  refine k_callSE C 8 (As := [.int x, .int 10, .int 125]) (st := []) mwX10_54 skX10_in (qX10_in l g M x 10 125) mlX10_in (by decide) (by decide) rfl rfl (Nat.le_of_ble_eq_true rfl) dX10_isLine_5 rfl ?_
  refine k_if_eqB C 23 11 dX10_isLine_8 (by decide) rfl (fun c8 => ?_) (fun d8 => ?_)
  · skip
    refine k_iconst C 24 (v := 0) (by decide) dX10_isLine_23 rfl ?_
    refine k_ret C rfl dX10_isLine_24 ?_
    exact ⟨b2i_neg (by rw [← pLine_m, c8]; rfl), rfl⟩
  · skip
    refine k_iload_n C 12 0 rfl rfl dX10_isLine_11 rfl ?_
    refine k_bipush C 14 (v := 10) (by decide) dX10_isLine_12 rfl ?_
    refine k_irem C 15 (by decide) dX10_isLine_14 rfl ?_
    refine k_iconst C 16 (v := 5) (by decide) dX10_isLine_15 rfl ?_
    refine k_icmp_gt C 23 19 dX10_isLine_16 (by decide) rfl (fun c16 => ?_) (fun d16 => ?_)
    · skip
      refine k_iconst C 24 (v := 0) (by decide) dX10_isLine_23 rfl ?_
      refine k_ret C rfl dX10_isLine_24 ?_
      exact ⟨b2i_neg (by rw [← pLine_m, d8, decide_eq_false (Int32.not_le.mpr c16)]; rfl), rfl⟩
    · skip
      refine k_iconst C 20 (v := 1) (by decide) dX10_isLine_19 rfl ?_
      refine k_goto C 24 dX10_isLine_20 (by decide) ?_
      refine k_ret C rfl dX10_isLine_24 ?_
      exact ⟨b2i_pos (by rw [← pLine_m, d8, decide_eq_true (Int32.not_lt.mp d16)]; rfl), rfl⟩
set_option maxHeartbeats 4000000 in
set_option maxRecDepth 20000 in
theorem qX10_isSheet (l : Launch) (g : GT) (M : Mem) (x : Int32) : CtrE l g yX10_isSheet cX10_isSheet 1 (some .boolean) 1 [.int x] M (b2i (decide (0 ≤ x) && decide (x < 4))) M := by
  refine ctrI_of (by decide +kernel) (Nat.le_of_ble_eq_true rfl) ?_
  intro pP eE RR sS mI aG bB mE cD C
  refine k_lo (lo' := [(0, .int x)]) rfl ?_
  refine k_iload_n C 1 0 rfl rfl dX10_isSheet_0 rfl ?_
  refine k_iconst C 2 (v := 0) (by decide) dX10_isSheet_1 rfl ?_
  refine k_iconst C 3 (v := 3) (by decide) dX10_isSheet_2 rfl ?_
  refine k_callSE C 6 (As := [.int x, .int 0, .int 3]) (st := []) mwX10_54 skX10_in (qX10_in l g M x 0 3) mlX10_in (by decide) (by decide) rfl rfl (Nat.le_of_ble_eq_true rfl) dX10_isSheet_3 rfl ?_
  refine k_ret C (nar_b2i _) dX10_isSheet_6 ?_
  exact ⟨by congr 1; congr 1; rw [decide_eq_decide, Int32.le_iff_toInt_le, Int32.lt_iff_toInt_lt]; simp only [Int32.reduceToInt]; omega, rfl⟩
set_option maxHeartbeats 4000000 in
set_option maxRecDepth 20000 in
theorem qX10_error (l : Launch) (g : GT) (M : Mem) (e : Int32) {k : Nat} (hk : k < 7) (he : (-1000000000) - e = nI k) : CtrE l g yX10_error cX10_error 2 (some .int) 0 [.ref (ga g 91), .int e] M e (mu M 95 k (M 95 k + 1)) := by
  refine ctrI_of (by decide +kernel) (Nat.le_of_ble_eq_true rfl) ?_
  intro pP eE RR sS mI aG bB mE cD C
  refine k_lo (lo' := [(0, .ref (ga g 91)), (1, .int e)]) rfl ?_
  refine k_aload_n C 1 0 rfl rfl dX10_error_0 rfl ?_
  refine k_get C 4 flX10_19 91 (by decide) (v := .ref (ga g 95)) (ce_91 g _) rfl dX10_error_1 rfl ?_
  refine k_ldc C 6 cwX10_49 dX10_error_4 rfl ?_
  refine k_iload_n C 7 1 rfl rfl dX10_error_6 rfl ?_
  refine k_isub C 8 dX10_error_7 rfl ?_
  refine k_teq (y := nI k) he ?_
  refine k_dup2 C 9 rfl rfl dX10_error_8 rfl ?_
  refine k_iald C 10 95 k (by decide) (ce_95 g) (by decide) rfl (by omega) dX10_error_9 rfl ?_
  refine k_iconst C 11 (v := 1) (by decide) dX10_error_10 rfl ?_
  refine k_iadd C 12 dX10_error_11 rfl ?_
  refine k_iast C 13 95 k (by decide) (ce_95 g) (by decide) rfl (by omega) dX10_error_12 rfl ?_
  refine k_iload_n C 14 1 rfl rfl dX10_error_13 rfl ?_
  refine k_ret C rfl dX10_error_14 ?_
  exact ⟨rfl, rfl⟩
set_option maxHeartbeats 4000000 in
set_option maxRecDepth 20000 in
theorem qcopyAll_92_94 (l : Launch) (g : GT) (M : Mem) : CtrU l g yX10_copyAll cX10_copyAll 3 0 [.ref (ga g 92), .ref (ga g 94)] M (mrow M 94 (cpA 416 (M 92) (M 94))) := by
  refine ctrV_of (by decide +kernel) (Nat.le_of_ble_eq_true rfl) ?_
  intro pP eE RR sS mI aG bB mE cD C
  refine k_lo (lo' := [(0, .ref (ga g 92)), (1, .ref (ga g 94))]) rfl ?_
  refine k_iconst C 1 (v := 0) (by decide) dX10_copyAll_0 rfl ?_
  refine k_istore_n C 2 [(2, .int 0), (0, .ref (ga g 92)), (1, .ref (ga g 94))] rfl (by decide) rfl dX10_copyAll_1 rfl ?_
  refine k_sub [(0, .ref (ga g 92)), (1, .ref (ga g 94)), (2, .int 0)] [1, 2, 0] rfl ?_
  refine k_all (M' := mrow M 94 (cpA 0 (M 92) (M 94))) (lo' := [(0, .ref (ga g 92)), (1, .ref (ga g 94)), (2, .int (nI 0))]) (st' := []) (by rw [show cpA 0 (M 92) (M 94) = M 94 from funext fun k => if_neg (Nat.not_lt_zero k), mrow_id]) (by rfl) rfl ?_
  refine k_loop (σ := Nat) (fun (i : Nat) => (i ≤ 416)) (fun (i : Nat) => 416 - i) (fun (i : Nat) => mrow M 94 (cpA i (M 92) (M 94))) (fun (i : Nat) => [(0, .ref (ga g 92)), (1, .ref (ga g 94)), (2, .int (nI i))]) 0 (show (0 ≤ 416) from by exact Nat.zero_le _) ?_
  rintro i hI ih
  have hI : (i ≤ 416) := hI
  have hi := hI
  show KW pP l eE RR sS mI aG bB mE cD g 3 _ (mrow M 94 (cpA i (M 92) (M 94))) 2 [(0, .ref (ga g 92)), (1, .ref (ga g 94)), (2, .int (nI i))] []
  refine k_iload_n C 3 2 rfl rfl dX10_copyAll_2 rfl ?_
  refine k_sipush C 6 (v := 416) (by decide) dX10_copyAll_3 rfl ?_
  refine k_icmp_ge C 21 9 dX10_copyAll_6 (by decide) rfl (fun c6 => ?_) (fun d6 => ?_)
  · skip
    have c6 := (nI_leI (by omega) (by omega)).mp (show nI 416 ≤ nI i from c6)
    refine k_vret C dX10_copyAll_21 ?_
    show _ = _
    rw [show i = 416 by omega]
  · skip
    have d6 := mt (nI_leI (by omega) (by omega)).mpr (show ¬ (nI 416 ≤ nI i) from d6)
    refine k_aload_n C 10 1 rfl rfl dX10_copyAll_9 rfl ?_
    refine k_iload_n C 11 2 rfl rfl dX10_copyAll_10 rfl ?_
    refine k_aload_n C 12 0 rfl rfl dX10_copyAll_11 rfl ?_
    refine k_iload_n C 13 2 rfl rfl dX10_copyAll_12 rfl ?_
    refine k_iald C 14 92 i (by decide) (ce_92 g) (by decide) rfl (by omega) dX10_copyAll_13 rfl ?_
    refine k_iast C 15 94 i (by decide) (ce_94 g) (by decide) rfl (by omega) dX10_copyAll_14 rfl ?_
    refine k_iinc C 18 (nI (i + 1)) 2 [(2, .int (nI (i + 1))), (0, .ref (ga g 92)), (1, .ref (ga g 94))] rfl (iinc_p i) (by decide) rfl dX10_copyAll_15 rfl ?_
    refine k_goto C 2 dX10_copyAll_18 (by decide) ?_
    refine k_sub [(0, .ref (ga g 92)), (1, .ref (ga g 94)), (2, .int (nI (i + 1)))] [1, 2, 0] rfl ?_
    refine k_all (M' := mrow M 94 (cpA (i + 1) (M 92) (M 94))) (lo' := [(0, .ref (ga g 92)), (1, .ref (ga g 94)), (2, .int (nI (i + 1)))]) (st' := []) (by rw [show mrow M 94 (cpA i (M 92) (M 94)) 92 i = M 92 i from by rw [mrow_n _ _ (show 92 ≠ 94 by decide)], cpA_s _ _ _ _ (M 94) (mrow_s _ _ _), mrow_mrow]) (by rfl) rfl ?_
    exact ih (i + 1) (show ((i + 1) ≤ 416) from by omega) (by show 416 - (i + 1) < _; omega)
set_option maxHeartbeats 4000000 in
set_option maxRecDepth 20000 in
theorem qcopyAll_94_92 (l : Launch) (g : GT) (M : Mem) : CtrU l g yX10_copyAll cX10_copyAll 3 0 [.ref (ga g 94), .ref (ga g 92)] M (mrow M 92 (cpA 416 (M 94) (M 92))) := by
  refine ctrV_of (by decide +kernel) (Nat.le_of_ble_eq_true rfl) ?_
  intro pP eE RR sS mI aG bB mE cD C
  refine k_lo (lo' := [(0, .ref (ga g 94)), (1, .ref (ga g 92))]) rfl ?_
  refine k_iconst C 1 (v := 0) (by decide) dX10_copyAll_0 rfl ?_
  refine k_istore_n C 2 [(2, .int 0), (0, .ref (ga g 94)), (1, .ref (ga g 92))] rfl (by decide) rfl dX10_copyAll_1 rfl ?_
  refine k_sub [(0, .ref (ga g 94)), (1, .ref (ga g 92)), (2, .int 0)] [1, 2, 0] rfl ?_
  refine k_all (M' := mrow M 92 (cpA 0 (M 94) (M 92))) (lo' := [(0, .ref (ga g 94)), (1, .ref (ga g 92)), (2, .int (nI 0))]) (st' := []) (by rw [show cpA 0 (M 94) (M 92) = M 92 from funext fun k => if_neg (Nat.not_lt_zero k), mrow_id]) (by rfl) rfl ?_
  refine k_loop (σ := Nat) (fun (i : Nat) => (i ≤ 416)) (fun (i : Nat) => 416 - i) (fun (i : Nat) => mrow M 92 (cpA i (M 94) (M 92))) (fun (i : Nat) => [(0, .ref (ga g 94)), (1, .ref (ga g 92)), (2, .int (nI i))]) 0 (show (0 ≤ 416) from by exact Nat.zero_le _) ?_
  rintro i hI ih
  have hI : (i ≤ 416) := hI
  have hi := hI
  show KW pP l eE RR sS mI aG bB mE cD g 3 _ (mrow M 92 (cpA i (M 94) (M 92))) 2 [(0, .ref (ga g 94)), (1, .ref (ga g 92)), (2, .int (nI i))] []
  refine k_iload_n C 3 2 rfl rfl dX10_copyAll_2 rfl ?_
  refine k_sipush C 6 (v := 416) (by decide) dX10_copyAll_3 rfl ?_
  refine k_icmp_ge C 21 9 dX10_copyAll_6 (by decide) rfl (fun c6 => ?_) (fun d6 => ?_)
  · skip
    have c6 := (nI_leI (by omega) (by omega)).mp (show nI 416 ≤ nI i from c6)
    refine k_vret C dX10_copyAll_21 ?_
    show _ = _
    rw [show i = 416 by omega]
  · skip
    have d6 := mt (nI_leI (by omega) (by omega)).mpr (show ¬ (nI 416 ≤ nI i) from d6)
    refine k_aload_n C 10 1 rfl rfl dX10_copyAll_9 rfl ?_
    refine k_iload_n C 11 2 rfl rfl dX10_copyAll_10 rfl ?_
    refine k_aload_n C 12 0 rfl rfl dX10_copyAll_11 rfl ?_
    refine k_iload_n C 13 2 rfl rfl dX10_copyAll_12 rfl ?_
    refine k_iald C 14 94 i (by decide) (ce_94 g) (by decide) rfl (by omega) dX10_copyAll_13 rfl ?_
    refine k_iast C 15 92 i (by decide) (ce_92 g) (by decide) rfl (by omega) dX10_copyAll_14 rfl ?_
    refine k_iinc C 18 (nI (i + 1)) 2 [(2, .int (nI (i + 1))), (0, .ref (ga g 94)), (1, .ref (ga g 92))] rfl (iinc_p i) (by decide) rfl dX10_copyAll_15 rfl ?_
    refine k_goto C 2 dX10_copyAll_18 (by decide) ?_
    refine k_sub [(0, .ref (ga g 94)), (1, .ref (ga g 92)), (2, .int (nI (i + 1)))] [1, 2, 0] rfl ?_
    refine k_all (M' := mrow M 92 (cpA (i + 1) (M 94) (M 92))) (lo' := [(0, .ref (ga g 94)), (1, .ref (ga g 92)), (2, .int (nI (i + 1)))]) (st' := []) (by rw [show mrow M 92 (cpA i (M 94) (M 92)) 94 i = M 94 i from by rw [mrow_n _ _ (show 94 ≠ 92 by decide)], cpA_s _ _ _ _ (M 92) (mrow_s _ _ _), mrow_mrow]) (by rfl) rfl ?_
    exact ih (i + 1) (show ((i + 1) ≤ 416) from by omega) (by show 416 - (i + 1) < _; omega)
set_option maxHeartbeats 4000000 in
set_option maxRecDepth 20000 in
theorem qcopyAll_92_93 (l : Launch) (g : GT) (M : Mem) : CtrU l g yX10_copyAll cX10_copyAll 3 0 [.ref (ga g 92), .ref (ga g 93)] M (mrow M 93 (cpA 416 (M 92) (M 93))) := by
  refine ctrV_of (by decide +kernel) (Nat.le_of_ble_eq_true rfl) ?_
  intro pP eE RR sS mI aG bB mE cD C
  refine k_lo (lo' := [(0, .ref (ga g 92)), (1, .ref (ga g 93))]) rfl ?_
  refine k_iconst C 1 (v := 0) (by decide) dX10_copyAll_0 rfl ?_
  refine k_istore_n C 2 [(2, .int 0), (0, .ref (ga g 92)), (1, .ref (ga g 93))] rfl (by decide) rfl dX10_copyAll_1 rfl ?_
  refine k_sub [(0, .ref (ga g 92)), (1, .ref (ga g 93)), (2, .int 0)] [1, 2, 0] rfl ?_
  refine k_all (M' := mrow M 93 (cpA 0 (M 92) (M 93))) (lo' := [(0, .ref (ga g 92)), (1, .ref (ga g 93)), (2, .int (nI 0))]) (st' := []) (by rw [show cpA 0 (M 92) (M 93) = M 93 from funext fun k => if_neg (Nat.not_lt_zero k), mrow_id]) (by rfl) rfl ?_
  refine k_loop (σ := Nat) (fun (i : Nat) => (i ≤ 416)) (fun (i : Nat) => 416 - i) (fun (i : Nat) => mrow M 93 (cpA i (M 92) (M 93))) (fun (i : Nat) => [(0, .ref (ga g 92)), (1, .ref (ga g 93)), (2, .int (nI i))]) 0 (show (0 ≤ 416) from by exact Nat.zero_le _) ?_
  rintro i hI ih
  have hI : (i ≤ 416) := hI
  have hi := hI
  show KW pP l eE RR sS mI aG bB mE cD g 3 _ (mrow M 93 (cpA i (M 92) (M 93))) 2 [(0, .ref (ga g 92)), (1, .ref (ga g 93)), (2, .int (nI i))] []
  refine k_iload_n C 3 2 rfl rfl dX10_copyAll_2 rfl ?_
  refine k_sipush C 6 (v := 416) (by decide) dX10_copyAll_3 rfl ?_
  refine k_icmp_ge C 21 9 dX10_copyAll_6 (by decide) rfl (fun c6 => ?_) (fun d6 => ?_)
  · skip
    have c6 := (nI_leI (by omega) (by omega)).mp (show nI 416 ≤ nI i from c6)
    refine k_vret C dX10_copyAll_21 ?_
    show _ = _
    rw [show i = 416 by omega]
  · skip
    have d6 := mt (nI_leI (by omega) (by omega)).mpr (show ¬ (nI 416 ≤ nI i) from d6)
    refine k_aload_n C 10 1 rfl rfl dX10_copyAll_9 rfl ?_
    refine k_iload_n C 11 2 rfl rfl dX10_copyAll_10 rfl ?_
    refine k_aload_n C 12 0 rfl rfl dX10_copyAll_11 rfl ?_
    refine k_iload_n C 13 2 rfl rfl dX10_copyAll_12 rfl ?_
    refine k_iald C 14 92 i (by decide) (ce_92 g) (by decide) rfl (by omega) dX10_copyAll_13 rfl ?_
    refine k_iast C 15 93 i (by decide) (ce_93 g) (by decide) rfl (by omega) dX10_copyAll_14 rfl ?_
    refine k_iinc C 18 (nI (i + 1)) 2 [(2, .int (nI (i + 1))), (0, .ref (ga g 92)), (1, .ref (ga g 93))] rfl (iinc_p i) (by decide) rfl dX10_copyAll_15 rfl ?_
    refine k_goto C 2 dX10_copyAll_18 (by decide) ?_
    refine k_sub [(0, .ref (ga g 92)), (1, .ref (ga g 93)), (2, .int (nI (i + 1)))] [1, 2, 0] rfl ?_
    refine k_all (M' := mrow M 93 (cpA (i + 1) (M 92) (M 93))) (lo' := [(0, .ref (ga g 92)), (1, .ref (ga g 93)), (2, .int (nI (i + 1)))]) (st' := []) (by rw [show mrow M 93 (cpA i (M 92) (M 93)) 92 i = M 92 i from by rw [mrow_n _ _ (show 92 ≠ 93 by decide)], cpA_s _ _ _ _ (M 93) (mrow_s _ _ _), mrow_mrow]) (by rfl) rfl ?_
    exact ih (i + 1) (show ((i + 1) ≤ 416) from by omega) (by show 416 - (i + 1) < _; omega)
set_option maxHeartbeats 4000000 in
set_option maxRecDepth 20000 in
theorem qcopyAll_93_92 (l : Launch) (g : GT) (M : Mem) : CtrU l g yX10_copyAll cX10_copyAll 3 0 [.ref (ga g 93), .ref (ga g 92)] M (mrow M 92 (cpA 416 (M 93) (M 92))) := by
  refine ctrV_of (by decide +kernel) (Nat.le_of_ble_eq_true rfl) ?_
  intro pP eE RR sS mI aG bB mE cD C
  refine k_lo (lo' := [(0, .ref (ga g 93)), (1, .ref (ga g 92))]) rfl ?_
  refine k_iconst C 1 (v := 0) (by decide) dX10_copyAll_0 rfl ?_
  refine k_istore_n C 2 [(2, .int 0), (0, .ref (ga g 93)), (1, .ref (ga g 92))] rfl (by decide) rfl dX10_copyAll_1 rfl ?_
  refine k_sub [(0, .ref (ga g 93)), (1, .ref (ga g 92)), (2, .int 0)] [1, 2, 0] rfl ?_
  refine k_all (M' := mrow M 92 (cpA 0 (M 93) (M 92))) (lo' := [(0, .ref (ga g 93)), (1, .ref (ga g 92)), (2, .int (nI 0))]) (st' := []) (by rw [show cpA 0 (M 93) (M 92) = M 92 from funext fun k => if_neg (Nat.not_lt_zero k), mrow_id]) (by rfl) rfl ?_
  refine k_loop (σ := Nat) (fun (i : Nat) => (i ≤ 416)) (fun (i : Nat) => 416 - i) (fun (i : Nat) => mrow M 92 (cpA i (M 93) (M 92))) (fun (i : Nat) => [(0, .ref (ga g 93)), (1, .ref (ga g 92)), (2, .int (nI i))]) 0 (show (0 ≤ 416) from by exact Nat.zero_le _) ?_
  rintro i hI ih
  have hI : (i ≤ 416) := hI
  have hi := hI
  show KW pP l eE RR sS mI aG bB mE cD g 3 _ (mrow M 92 (cpA i (M 93) (M 92))) 2 [(0, .ref (ga g 93)), (1, .ref (ga g 92)), (2, .int (nI i))] []
  refine k_iload_n C 3 2 rfl rfl dX10_copyAll_2 rfl ?_
  refine k_sipush C 6 (v := 416) (by decide) dX10_copyAll_3 rfl ?_
  refine k_icmp_ge C 21 9 dX10_copyAll_6 (by decide) rfl (fun c6 => ?_) (fun d6 => ?_)
  · skip
    have c6 := (nI_leI (by omega) (by omega)).mp (show nI 416 ≤ nI i from c6)
    refine k_vret C dX10_copyAll_21 ?_
    show _ = _
    rw [show i = 416 by omega]
  · skip
    have d6 := mt (nI_leI (by omega) (by omega)).mpr (show ¬ (nI 416 ≤ nI i) from d6)
    refine k_aload_n C 10 1 rfl rfl dX10_copyAll_9 rfl ?_
    refine k_iload_n C 11 2 rfl rfl dX10_copyAll_10 rfl ?_
    refine k_aload_n C 12 0 rfl rfl dX10_copyAll_11 rfl ?_
    refine k_iload_n C 13 2 rfl rfl dX10_copyAll_12 rfl ?_
    refine k_iald C 14 93 i (by decide) (ce_93 g) (by decide) rfl (by omega) dX10_copyAll_13 rfl ?_
    refine k_iast C 15 92 i (by decide) (ce_92 g) (by decide) rfl (by omega) dX10_copyAll_14 rfl ?_
    refine k_iinc C 18 (nI (i + 1)) 2 [(2, .int (nI (i + 1))), (0, .ref (ga g 93)), (1, .ref (ga g 92))] rfl (iinc_p i) (by decide) rfl dX10_copyAll_15 rfl ?_
    refine k_goto C 2 dX10_copyAll_18 (by decide) ?_
    refine k_sub [(0, .ref (ga g 93)), (1, .ref (ga g 92)), (2, .int (nI (i + 1)))] [1, 2, 0] rfl ?_
    refine k_all (M' := mrow M 92 (cpA (i + 1) (M 93) (M 92))) (lo' := [(0, .ref (ga g 93)), (1, .ref (ga g 92)), (2, .int (nI (i + 1)))]) (st' := []) (by rw [show mrow M 92 (cpA i (M 93) (M 92)) 93 i = M 93 i from by rw [mrow_n _ _ (show 93 ≠ 92 by decide)], cpA_s _ _ _ _ (M 92) (mrow_s _ _ _), mrow_mrow]) (by rfl) rfl ?_
    exact ih (i + 1) (show ((i + 1) ≤ 416) from by omega) (by show 416 - (i + 1) < _; omega)
set_option maxHeartbeats 4000000 in
set_option maxRecDepth 20000 in
theorem qX10_thinks (l : Launch) (g : GT) (M : Mem) : CtrU l g yX10_thinks cX10_thinks 1 1 [.ref (ga g 91)] M (mrow M 94 (cpA 416 (M 92) (M 94))) := by
  refine ctrV_of (by decide +kernel) (Nat.le_of_ble_eq_true rfl) ?_
  intro pP eE RR sS mI aG bB mE cD C
  refine k_lo (lo' := [(0, .ref (ga g 91))]) rfl ?_
  refine k_aload_n C 1 0 rfl rfl dX10_thinks_0 rfl ?_
  refine k_get C 4 flX10_9 91 (by decide) (v := .ref (ga g 92)) (ce_91 g _) rfl dX10_thinks_1 rfl ?_
  refine k_aload_n C 5 0 rfl rfl dX10_thinks_4 rfl ?_
  refine k_get C 8 flX10_16 91 (by decide) (v := .ref (ga g 94)) (ce_91 g _) rfl dX10_thinks_5 rfl ?_
  refine k_callSU C 11 (As := [.ref (ga g 92), .ref (ga g 94)]) (st := []) mwX10_50 skX10_copyAll (qcopyAll_92_94 l g M) mlX10_copyAll (by decide) (by decide) rfl rfl (Nat.le_of_ble_eq_true rfl) dX10_thinks_8 rfl ?_
  refine k_vret C dX10_thinks_11 ?_
  rfl
set_option maxHeartbeats 4000000 in
set_option maxRecDepth 20000 in
theorem qX10_putsBack (l : Launch) (g : GT) (M : Mem) : CtrU l g yX10_putsBack cX10_putsBack 1 1 [.ref (ga g 91)] M (mrow M 92 (cpA 416 (M 94) (M 92))) := by
  refine ctrV_of (by decide +kernel) (Nat.le_of_ble_eq_true rfl) ?_
  intro pP eE RR sS mI aG bB mE cD C
  refine k_lo (lo' := [(0, .ref (ga g 91))]) rfl ?_
  refine k_aload_n C 1 0 rfl rfl dX10_putsBack_0 rfl ?_
  refine k_get C 4 flX10_16 91 (by decide) (v := .ref (ga g 94)) (ce_91 g _) rfl dX10_putsBack_1 rfl ?_
  refine k_aload_n C 5 0 rfl rfl dX10_putsBack_4 rfl ?_
  refine k_get C 8 flX10_9 91 (by decide) (v := .ref (ga g 92)) (ce_91 g _) rfl dX10_putsBack_5 rfl ?_
  refine k_callSU C 11 (As := [.ref (ga g 94), .ref (ga g 92)]) (st := []) mwX10_50 skX10_copyAll (qcopyAll_94_92 l g M) mlX10_copyAll (by decide) (by decide) rfl rfl (Nat.le_of_ble_eq_true rfl) dX10_putsBack_8 rfl ?_
  refine k_vret C dX10_putsBack_11 ?_
  rfl
set_option maxHeartbeats 4000000 in
set_option maxRecDepth 20000 in
theorem qX10_bits (l : Launch) (g : GT) (M : Mem) {m : Nat} (hm : m < 4096) : CtrE l g yX10_bits cX10_bits 3 (some .int) 0 [.int (nI m)] M (nI (popc m)) M := by
  refine ctrI_of (by decide +kernel) (Nat.le_of_ble_eq_true rfl) ?_
  intro pP eE RR sS mI aG bB mE cD C
  refine k_lo (lo' := [(0, .int (nI m))]) rfl ?_
  refine k_iconst C 1 (v := 0) (by decide) dX10_bits_0 rfl ?_
  refine k_istore_n C 2 [(1, .int 0), (0, .int (nI m))] rfl (by decide) rfl dX10_bits_1 rfl ?_
  refine k_iload_n C 3 1 rfl rfl dX10_bits_2 rfl ?_
  refine k_istore_n C 4 [(2, .int (nI m)), (1, .int 0), (0, .int (nI m))] rfl (by decide) rfl dX10_bits_3 rfl ?_
  refine k_sub [(1, .int 0), (2, .int (nI m))] [1, 0] rfl ?_
  refine k_all (M' := M) (lo' := [(1, .int (nI 0)), (2, .int (nI m))]) (st' := []) (by rfl) (by rfl) rfl ?_
  refine k_loop (σ := Nat × Nat) (fun (v : Nat × Nat) => match v with | (k, r) => (r < 4096) ∧ (k + popc r = popc m)) (fun (v : Nat × Nat) => match v with | (k, r) => r) (fun (v : Nat × Nat) => match v with | (k, r) => M) (fun (v : Nat × Nat) => match v with | (k, r) => [(1, .int (nI k)), (2, .int (nI r))]) (0, m) (show (m < 4096) ∧ (0 + popc m = popc m) from by exact ⟨hm, Nat.zero_add _⟩) ?_
  rintro ⟨k, r⟩ hI ih
  have hI : (r < 4096) ∧ (k + popc r = popc m) := hI
  obtain ⟨hr, he⟩ := hI
  show KW pP l eE RR sS mI aG bB mE cD g 3 _ (M) 4 [(1, .int (nI k)), (2, .int (nI r))] []
  refine k_iload_n C 5 1 rfl rfl dX10_bits_4 rfl ?_
  refine k_if_eq C 20 8 dX10_bits_5 (by decide) rfl (fun c5 => ?_) (fun d5 => ?_)
  · skip
    have c5 := (nI_eq (by omega) (by omega)).mp (show nI r = nI 0 from c5)
    refine k_iload_n C 21 0 rfl rfl dX10_bits_20 rfl ?_
    refine k_ret C rfl dX10_bits_21 ?_
    exact ⟨by rw [← he, show r = 0 by omega]; rfl, rfl⟩
  · skip
    have d5 := mt (nI_eq (by omega) (by omega)).mpr (show ¬ (nI r = nI 0) from d5)
    have hst := kern_step r hr (by omega)
    refine k_iinc C 11 (nI (k + 1)) 0 [(1, .int (nI (k + 1))), (2, .int (nI r))] rfl (iinc_p k) (by decide) rfl dX10_bits_8 rfl ?_
    refine k_iload_n C 12 1 rfl rfl dX10_bits_11 rfl ?_
    refine k_iload_n C 13 1 rfl rfl dX10_bits_12 rfl ?_
    refine k_iconst C 14 (v := 1) (by decide) dX10_bits_13 rfl ?_
    refine k_isub C 15 dX10_bits_14 rfl ?_
    refine k_iand C 16 dX10_bits_15 rfl ?_
    refine k_istore_n C 17 [(2, .int ((nI r) &&& ((nI r) - 1))), (1, .int (nI (k + 1)))] rfl (by decide) rfl dX10_bits_16 rfl ?_
    refine k_goto C 4 dX10_bits_17 (by decide) ?_
    refine k_sub [(1, .int (nI (k + 1))), (2, .int ((nI r) &&& ((nI r) - 1)))] [1, 0] rfl ?_
    refine k_all (M' := M) (lo' := [(1, .int (nI (k + 1))), (2, .int (nI (r &&& (r - 1))))]) (st' := []) (by rfl) (by rw [hst.1]) rfl ?_
    exact ih (k + 1, r &&& (r - 1)) (show ((r &&& (r - 1)) < 4096) ∧ ((k + 1) + popc (r &&& (r - 1)) = popc m) from by exact ⟨by omega, by omega⟩) (by show (r &&& (r - 1)) < r; omega)
set_option maxHeartbeats 4000000 in
set_option maxRecDepth 20000 in
theorem qX10_isFurrow (l : Launch) (g : GT) (M : Mem) {n : Nat} (hn : M 92 2 = nI n) (h12 : n ≤ 12) (f : Int32) : CtrE l g yX10_isFurrow cX10_isFurrow 2 (some .boolean) 1 [.ref (ga g 91), .int f] M (b2i (pIsF n f)) M := by
  refine ctrI_of (by decide +kernel) (Nat.le_of_ble_eq_true rfl) ?_
  intro pP eE RR sS mI aG bB mE cD C
  refine k_lo (lo' := [(0, .ref (ga g 91)), (1, .int f)]) rfl ?_
  refine k_iload_n C 1 1 rfl rfl dX10_isFurrow_0 rfl ?_
  refine k_iconst C 2 (v := 0) (by decide) dX10_isFurrow_1 rfl ?_
  refine k_aload_n C 3 0 rfl rfl dX10_isFurrow_2 rfl ?_
  refine k_get C 6 flX10_9 91 (by decide) (v := .ref (ga g 92)) (ce_91 g _) rfl dX10_isFurrow_3 rfl ?_
  refine k_iconst C 7 (v := 2) (by decide) dX10_isFurrow_6 rfl ?_
  refine k_iald C 8 92 2 (by decide) (ce_92 g) (by decide) rfl (by omega) dX10_isFurrow_7 rfl ?_
  refine k_teq (y := nI n) hn ?_
  refine k_iconst C 9 (v := 1) (by decide) dX10_isFurrow_8 rfl ?_
  refine k_isub C 10 dX10_isFurrow_9 rfl ?_
  refine k_callSE C 13 (As := [.int f, .int 0, .int ((nI n) - 1)]) (st := []) mwX10_54 skX10_in (qX10_in l g M f 0 ((nI n) - 1)) mlX10_in (by decide) (by decide) rfl rfl (Nat.le_of_ble_eq_true rfl) dX10_isFurrow_10 rfl ?_
  refine k_ret C (nar_b2i _) dX10_isFurrow_13 ?_
  exact ⟨by rw [pIsF_m h12], rfl⟩
set_option maxHeartbeats 4000000 in
set_option maxRecDepth 20000 in
theorem qX10_becomes (l : Launch) (g : GT) (M : Mem) {q : Nat} (hq : q < 416) (v : Int32) : CtrE l g yX10_becomes cX10_becomes 4 (some .int) 0 [.ref (ga g 91), .int (nI q), .int v] M (M 92 q) (mu M 92 q v) := by
  refine ctrI_of (by decide +kernel) (Nat.le_of_ble_eq_true rfl) ?_
  intro pP eE RR sS mI aG bB mE cD C
  refine k_lo (lo' := [(0, .ref (ga g 91)), (1, .int (nI q)), (2, .int v)]) rfl ?_
  refine k_aload_n C 1 0 rfl rfl dX10_becomes_0 rfl ?_
  refine k_get C 4 flX10_9 91 (by decide) (v := .ref (ga g 92)) (ce_91 g _) rfl dX10_becomes_1 rfl ?_
  refine k_iload_n C 5 1 rfl rfl dX10_becomes_4 rfl ?_
  refine k_iald C 6 92 q (by decide) (ce_92 g) (by decide) rfl (by omega) dX10_becomes_5 rfl ?_
  refine k_istore_n C 7 [(3, .int (M 92 q)), (0, .ref (ga g 91)), (1, .int (nI q)), (2, .int v)] rfl (by decide) rfl dX10_becomes_6 rfl ?_
  refine k_aload_n C 8 1 rfl rfl dX10_becomes_7 rfl ?_
  refine k_get C 11 flX10_9 91 (by decide) (v := .ref (ga g 92)) (ce_91 g _) rfl dX10_becomes_8 rfl ?_
  refine k_iload_n C 12 2 rfl rfl dX10_becomes_11 rfl ?_
  refine k_iload_n C 13 3 rfl rfl dX10_becomes_12 rfl ?_
  refine k_iast C 14 92 q (by decide) (ce_92 g) (by decide) rfl (by omega) dX10_becomes_13 rfl ?_
  refine k_iload_n C 15 0 rfl rfl dX10_becomes_14 rfl ?_
  refine k_ret C rfl dX10_becomes_15 ?_
  exact ⟨rfl, rfl⟩
set_option maxHeartbeats 4000000 in
set_option maxRecDepth 20000 in
theorem qX10_of (l : Launch) (g : GT) (M : Mem) {f w : Nat} (hf : f ≤ 12) (hw : w < 7) : CtrE l g yX10_of cX10_of 3 (some .int) 0 [.ref (ga g 91), .int (nI f), .int (nI w)] M (mF M f w) M := by
  refine ctrI_of (by decide +kernel) (Nat.le_of_ble_eq_true rfl) ?_
  intro pP eE RR sS mI aG bB mE cD C
  refine k_lo (lo' := [(0, .ref (ga g 91)), (1, .int (nI f)), (2, .int (nI w))]) rfl ?_
  refine k_aload_n C 1 0 rfl rfl dX10_of_0 rfl ?_
  refine k_get C 4 flX10_9 91 (by decide) (v := .ref (ga g 92)) (ce_91 g _) rfl dX10_of_1 rfl ?_
  refine k_bipush C 6 (v := 6) (by decide) dX10_of_4 rfl ?_
  refine k_bipush C 8 (v := 7) (by decide) dX10_of_6 rfl ?_
  refine k_iload_n C 9 1 rfl rfl dX10_of_8 rfl ?_
  refine k_imul C 10 dX10_of_9 rfl ?_
  refine k_teq (pk_mul 7 f) ?_
  refine k_iadd C 11 dX10_of_10 rfl ?_
  refine k_teq (nI_add 6 (7 * f)) ?_
  refine k_iload_n C 12 2 rfl rfl dX10_of_11 rfl ?_
  refine k_iadd C 13 dX10_of_12 rfl ?_
  refine k_teq (nI_add (6 + (7 * f)) w) ?_
  refine k_iald C 14 92 ((6 + (7 * f)) + w) (by decide) (ce_92 g) (by decide) rfl (by omega) dX10_of_13 rfl ?_
  refine k_ret C rfl dX10_of_14 ?_
  exact ⟨rfl, rfl⟩
set_option maxHeartbeats 4000000 in
set_option maxRecDepth 20000 in
theorem qX10_lets (l : Launch) (g : GT) (M : Mem) {f w : Nat} (hf : f ≤ 12) (hw : w < 7) (v : Int32) : CtrU l g yX10_lets cX10_lets 4 0 [.ref (ga g 91), .int (nI f), .int (nI w), .int v] M (mu M 92 (6 + 7 * f + w) v) := by
  refine ctrV_of (by decide +kernel) (Nat.le_of_ble_eq_true rfl) ?_
  intro pP eE RR sS mI aG bB mE cD C
  refine k_lo (lo' := [(0, .ref (ga g 91)), (1, .int (nI f)), (2, .int (nI w)), (3, .int v)]) rfl ?_
  refine k_aload_n C 1 0 rfl rfl dX10_lets_0 rfl ?_
  refine k_get C 4 flX10_9 91 (by decide) (v := .ref (ga g 92)) (ce_91 g _) rfl dX10_lets_1 rfl ?_
  refine k_bipush C 6 (v := 6) (by decide) dX10_lets_4 rfl ?_
  refine k_bipush C 8 (v := 7) (by decide) dX10_lets_6 rfl ?_
  refine k_iload_n C 9 1 rfl rfl dX10_lets_8 rfl ?_
  refine k_imul C 10 dX10_lets_9 rfl ?_
  refine k_teq (pk_mul 7 f) ?_
  refine k_iadd C 11 dX10_lets_10 rfl ?_
  refine k_teq (nI_add 6 (7 * f)) ?_
  refine k_iload_n C 12 2 rfl rfl dX10_lets_11 rfl ?_
  refine k_iadd C 13 dX10_lets_12 rfl ?_
  refine k_teq (nI_add (6 + (7 * f)) w) ?_
  refine k_iload_n C 14 3 rfl rfl dX10_lets_13 rfl ?_
  refine k_iast C 15 92 ((6 + (7 * f)) + w) (by decide) (ce_92 g) (by decide) rfl (by omega) dX10_lets_14 rfl ?_
  refine k_vret C dX10_lets_15 ?_
  rfl
set_option maxHeartbeats 4000000 in
set_option maxRecDepth 20000 in
theorem qX10_doesAnswer (l : Launch) (g : GT) (M : Mem) {a b : Nat} (ha : a < 12) (hb : b < 12) : CtrE l g yX10_doesAnswer cX10_doesAnswer 6 (some .boolean) 1 [.ref (ga g 91), .int (nI a), .int (nI b)] M (b2i (pAns (mF M a) (mF M b))) M := by
  refine ctrI_of (by decide +kernel) (Nat.le_of_ble_eq_true rfl) ?_
  intro pP eE RR sS mI aG bB mE cD C
  refine k_lo (lo' := [(0, .ref (ga g 91)), (1, .int (nI a)), (2, .int (nI b))]) rfl ?_
  refine k_aload_n C 1 0 rfl rfl dX10_doesAnswer_0 rfl ?_
  refine k_iload_n C 2 1 rfl rfl dX10_doesAnswer_1 rfl ?_
  refine k_iconst C 3 (v := 2) (by decide) dX10_doesAnswer_2 rfl ?_
  refine k_callVE C 6 (As := [.int (nI a), .int 2]) (st := []) 91 (by decide) (ce_91 g _) rfl rfl mwX10_58 vlX10_of (qX10_of l g M (f := a) (w := 2) (by omega) (by omega)) mlX10_of (by decide) (by decide) rfl rfl (Nat.le_of_ble_eq_true rfl) dX10_doesAnswer_3 rfl ?_
  refine k_aload_n C 7 0 rfl rfl dX10_doesAnswer_6 rfl ?_
  refine k_iload_n C 8 2 rfl rfl dX10_doesAnswer_7 rfl ?_
  refine k_iconst C 9 (v := 2) (by decide) dX10_doesAnswer_8 rfl ?_
  refine k_callVE C 12 (As := [.int (nI b), .int 2]) (st := [.int (mF M a 2)]) 91 (by decide) (ce_91 g _) rfl rfl mwX10_58 vlX10_of (qX10_of l g M (f := b) (w := 2) (by omega) (by omega)) mlX10_of (by decide) (by decide) rfl rfl (Nat.le_of_ble_eq_true rfl) dX10_doesAnswer_9 rfl ?_
  refine k_join (σ := Unit) (fun (_u : Unit) => True) (fun (_u : Unit) => M) (fun (_u : Unit) => [(0, .ref (ga g 91)), (1, .int (nI a)), (2, .int (nI b))]) (fun (_u : Unit) => [.int (b2i (decide (mF M a 2 = mF M b 2)))]) 20 ?_ (fun hJ20 => ?_)
  · skip
    rintro _u hI
    have hI : True := hI
    show KW pP l eE RR sS mI aG bB mE cD g 6 _ (M) 20 [(0, .ref (ga g 91)), (1, .int (nI a)), (2, .int (nI b))] [.int (b2i (decide (mF M a 2 = mF M b 2)))]
    refine k_istore_n C 21 [(3, .int (b2i (decide (mF M a 2 = mF M b 2)))), (0, .ref (ga g 91)), (1, .int (nI a)), (2, .int (nI b))] rfl (by decide) rfl dX10_doesAnswer_20 rfl ?_
    refine k_aload_n C 22 1 rfl rfl dX10_doesAnswer_21 rfl ?_
    refine k_iload_n C 23 2 rfl rfl dX10_doesAnswer_22 rfl ?_
    refine k_iconst C 24 (v := 3) (by decide) dX10_doesAnswer_23 rfl ?_
    refine k_callVE C 27 (As := [.int (nI a), .int 3]) (st := []) 91 (by decide) (ce_91 g _) rfl rfl mwX10_58 vlX10_of (qX10_of l g M (f := a) (w := 3) (by omega) (by omega)) mlX10_of (by decide) (by decide) rfl rfl (Nat.le_of_ble_eq_true rfl) dX10_doesAnswer_24 rfl ?_
    refine k_aload_n C 28 1 rfl rfl dX10_doesAnswer_27 rfl ?_
    refine k_iload_n C 29 3 rfl rfl dX10_doesAnswer_28 rfl ?_
    refine k_iconst C 30 (v := 3) (by decide) dX10_doesAnswer_29 rfl ?_
    refine k_callVE C 33 (As := [.int (nI b), .int 3]) (st := [.int (mF M a 3)]) 91 (by decide) (ce_91 g _) rfl rfl mwX10_58 vlX10_of (qX10_of l g M (f := b) (w := 3) (by omega) (by omega)) mlX10_of (by decide) (by decide) rfl rfl (Nat.le_of_ble_eq_true rfl) dX10_doesAnswer_30 rfl ?_
    refine k_join (σ := Unit) (fun (_u : Unit) => True) (fun (_u : Unit) => M) (fun (_u : Unit) => [(3, .int (b2i (decide (mF M a 2 = mF M b 2)))), (0, .ref (ga g 91)), (1, .int (nI a)), (2, .int (nI b))]) (fun (_u : Unit) => [.int (b2i (decide (mF M a 3 = mF M b 3)))]) 41 ?_ (fun hJ41 => ?_)
    · skip
      rintro _u hI
      have hI : True := hI
      show KW pP l eE RR sS mI aG bB mE cD g 6 _ (M) 41 [(3, .int (b2i (decide (mF M a 2 = mF M b 2)))), (0, .ref (ga g 91)), (1, .int (nI a)), (2, .int (nI b))] [.int (b2i (decide (mF M a 3 = mF M b 3)))]
      refine k_istore C 43 [(4, .int (b2i (decide (mF M a 3 = mF M b 3)))), (3, .int (b2i (decide (mF M a 2 = mF M b 2)))), (0, .ref (ga g 91)), (1, .int (nI a)), (2, .int (nI b))]  (by decide) rfl dX10_doesAnswer_41 rfl ?_
      refine k_aload_n C 44 2 rfl rfl dX10_doesAnswer_43 rfl ?_
      refine k_iload_n C 45 3 rfl rfl dX10_doesAnswer_44 rfl ?_
      refine k_iconst C 46 (v := 3) (by decide) dX10_doesAnswer_45 rfl ?_
      refine k_callVE C 49 (As := [.int (nI a), .int 3]) (st := []) 91 (by decide) (ce_91 g _) rfl rfl mwX10_58 vlX10_of (qX10_of l g M (f := a) (w := 3) (by omega) (by omega)) mlX10_of (by decide) (by decide) rfl rfl (Nat.le_of_ble_eq_true rfl) dX10_doesAnswer_46 rfl ?_
      refine k_aload_n C 50 2 rfl rfl dX10_doesAnswer_49 rfl ?_
      refine k_iload_n C 51 4 rfl rfl dX10_doesAnswer_50 rfl ?_
      refine k_iconst C 52 (v := 3) (by decide) dX10_doesAnswer_51 rfl ?_
      refine k_callVE C 55 (As := [.int (nI b), .int 3]) (st := [.int (mF M a 3)]) 91 (by decide) (ce_91 g _) rfl rfl mwX10_58 vlX10_of (qX10_of l g M (f := b) (w := 3) (by omega) (by omega)) mlX10_of (by decide) (by decide) rfl rfl (Nat.le_of_ble_eq_true rfl) dX10_doesAnswer_52 rfl ?_
      refine k_join (σ := Unit) (fun (_u : Unit) => True) (fun (_u : Unit) => M) (fun (_u : Unit) => [(4, .int (b2i (decide (mF M a 3 = mF M b 3)))), (3, .int (b2i (decide (mF M a 2 = mF M b 2)))), (0, .ref (ga g 91)), (1, .int (nI a)), (2, .int (nI b))]) (fun (_u : Unit) => [.int (b2i (decide (mF M b 3 ≤ mF M a 3)))]) 63 ?_ (fun hJ63 => ?_)
      · skip
        rintro _u hI
        have hI : True := hI
        show KW pP l eE RR sS mI aG bB mE cD g 6 _ (M) 63 [(4, .int (b2i (decide (mF M a 3 = mF M b 3)))), (3, .int (b2i (decide (mF M a 2 = mF M b 2)))), (0, .ref (ga g 91)), (1, .int (nI a)), (2, .int (nI b))] [.int (b2i (decide (mF M b 3 ≤ mF M a 3)))]
        refine k_istore C 65 [(5, .int (b2i (decide (mF M b 3 ≤ mF M a 3)))), (4, .int (b2i (decide (mF M a 3 = mF M b 3)))), (3, .int (b2i (decide (mF M a 2 = mF M b 2)))), (0, .ref (ga g 91)), (1, .int (nI a)), (2, .int (nI b))]  (by decide) rfl dX10_doesAnswer_63 rfl ?_
        refine k_aload_n C 66 3 rfl rfl dX10_doesAnswer_65 rfl ?_
        refine k_iload_n C 67 4 rfl rfl dX10_doesAnswer_66 rfl ?_
        refine k_iconst C 68 (v := 0) (by decide) dX10_doesAnswer_67 rfl ?_
        refine k_callVE C 71 (As := [.int (nI a), .int 0]) (st := []) 91 (by decide) (ce_91 g _) rfl rfl mwX10_58 vlX10_of (qX10_of l g M (f := a) (w := 0) (by omega) (by omega)) mlX10_of (by decide) (by decide) rfl rfl (Nat.le_of_ble_eq_true rfl) dX10_doesAnswer_68 rfl ?_
        by_cases w71_1 : mF M a 0 = 1
        · skip
          refine k_tin C 108 (by rw [w71_1]; decide) (by rw [w71_1]; decide) (by rw [w71_1]; rfl) dX10_doesAnswer_71 (by decide) ?_
          refine k_iload_n C 109 2 rfl rfl dX10_doesAnswer_108 rfl ?_
          refine k_ret C (nar_b2i _) dX10_doesAnswer_109 ?_
          exact ⟨by simp [pAns, w71_1], rfl⟩
        · skip
          by_cases w71_2 : mF M a 0 = 2
          · skip
            refine k_tin C 110 (by rw [w71_2]; decide) (by rw [w71_2]; decide) (by rw [w71_2]; rfl) dX10_doesAnswer_71 (by decide) ?_
            refine k_iload C 112 0  rfl dX10_doesAnswer_110 rfl ?_
            refine k_ret C (nar_b2i _) dX10_doesAnswer_112 ?_
            exact ⟨by simp [pAns, w71_2], rfl⟩
          · skip
            by_cases w71_3 : mF M a 0 = 3
            · skip
              refine k_tin C 113 (by rw [w71_3]; decide) (by rw [w71_3]; decide) (by rw [w71_3]; rfl) dX10_doesAnswer_71 (by decide) ?_
              refine k_iload_n C 114 2 rfl rfl dX10_doesAnswer_113 rfl ?_
              refine k_if_neB C 151 117 dX10_doesAnswer_114 (by decide) rfl (fun c114 => ?_) (fun d114 => ?_)
              · skip
                refine k_iconst C 152 (v := 1) (by decide) dX10_doesAnswer_151 rfl ?_
                refine k_goto C 156 dX10_doesAnswer_152 (by decide) ?_
                refine k_ret C rfl dX10_doesAnswer_156 ?_
                simp only [decide_eq_true_eq, decide_eq_false_iff_not] at c114
                exact ⟨b2i_pos (by simp [pAns, ← Int32.not_le, w71_3, c114]), rfl⟩
              · skip
                refine k_iload C 119 1  rfl dX10_doesAnswer_117 rfl ?_
                refine k_if_neB C 151 122 dX10_doesAnswer_119 (by decide) rfl (fun c119 => ?_) (fun d119 => ?_)
                · skip
                  refine k_iconst C 152 (v := 1) (by decide) dX10_doesAnswer_151 rfl ?_
                  refine k_goto C 156 dX10_doesAnswer_152 (by decide) ?_
                  refine k_ret C rfl dX10_doesAnswer_156 ?_
                  simp only [decide_eq_true_eq, decide_eq_false_iff_not] at d114 c119
                  exact ⟨b2i_pos (by simp [pAns, ← Int32.not_le, w71_3, d114, c119]), rfl⟩
                · skip
                  refine k_aload_n C 123 3 rfl rfl dX10_doesAnswer_122 rfl ?_
                  refine k_iload_n C 124 4 rfl rfl dX10_doesAnswer_123 rfl ?_
                  refine k_iconst C 125 (v := 2) (by decide) dX10_doesAnswer_124 rfl ?_
                  refine k_callVE C 128 (As := [.int (nI a), .int 2]) (st := []) 91 (by decide) (ce_91 g _) rfl rfl mwX10_58 vlX10_of (qX10_of l g M (f := a) (w := 2) (by omega) (by omega)) mlX10_of (by decide) (by decide) rfl rfl (Nat.le_of_ble_eq_true rfl) dX10_doesAnswer_125 rfl ?_
                  refine k_aload_n C 129 3 rfl rfl dX10_doesAnswer_128 rfl ?_
                  refine k_iload_n C 130 4 rfl rfl dX10_doesAnswer_129 rfl ?_
                  refine k_iconst C 131 (v := 3) (by decide) dX10_doesAnswer_130 rfl ?_
                  refine k_callVE C 134 (As := [.int (nI a), .int 3]) (st := [.int (mF M a 2)]) 91 (by decide) (ce_91 g _) rfl rfl mwX10_58 vlX10_of (qX10_of l g M (f := a) (w := 3) (by omega) (by omega)) mlX10_of (by decide) (by decide) rfl rfl (Nat.le_of_ble_eq_true rfl) dX10_doesAnswer_131 rfl ?_
                  refine k_iadd C 135 dX10_doesAnswer_134 rfl ?_
                  refine k_aload_n C 136 3 rfl rfl dX10_doesAnswer_135 rfl ?_
                  refine k_iload_n C 137 5 rfl rfl dX10_doesAnswer_136 rfl ?_
                  refine k_iconst C 138 (v := 2) (by decide) dX10_doesAnswer_137 rfl ?_
                  refine k_callVE C 141 (As := [.int (nI b), .int 2]) (st := [.int ((mF M a 2) + (mF M a 3))]) 91 (by decide) (ce_91 g _) rfl rfl mwX10_58 vlX10_of (qX10_of l g M (f := b) (w := 2) (by omega) (by omega)) mlX10_of (by decide) (by decide) rfl rfl (Nat.le_of_ble_eq_true rfl) dX10_doesAnswer_138 rfl ?_
                  refine k_aload_n C 142 3 rfl rfl dX10_doesAnswer_141 rfl ?_
                  refine k_iload_n C 143 5 rfl rfl dX10_doesAnswer_142 rfl ?_
                  refine k_iconst C 144 (v := 3) (by decide) dX10_doesAnswer_143 rfl ?_
                  refine k_callVE C 147 (As := [.int (nI b), .int 3]) (st := [.int (mF M b 2), .int ((mF M a 2) + (mF M a 3))]) 91 (by decide) (ce_91 g _) rfl rfl mwX10_58 vlX10_of (qX10_of l g M (f := b) (w := 3) (by omega) (by omega)) mlX10_of (by decide) (by decide) rfl rfl (Nat.le_of_ble_eq_true rfl) dX10_doesAnswer_144 rfl ?_
                  refine k_iadd C 148 dX10_doesAnswer_147 rfl ?_
                  refine k_icmp_ne C 155 151 dX10_doesAnswer_148 (by decide) rfl (fun c148 => ?_) (fun d148 => ?_)
                  · skip
                    refine k_iconst C 156 (v := 0) (by decide) dX10_doesAnswer_155 rfl ?_
                    refine k_ret C rfl dX10_doesAnswer_156 ?_
                    simp only [decide_eq_true_eq, decide_eq_false_iff_not] at d114 d119
                    exact ⟨b2i_neg (by simp [pAns, ← Int32.not_le, w71_3, d114, d119, c148]), rfl⟩
                  · skip
                    refine k_iconst C 152 (v := 1) (by decide) dX10_doesAnswer_151 rfl ?_
                    refine k_goto C 156 dX10_doesAnswer_152 (by decide) ?_
                    refine k_ret C rfl dX10_doesAnswer_156 ?_
                    simp only [decide_eq_true_eq, decide_eq_false_iff_not] at d114 d119
                    exact ⟨b2i_pos (by simp [pAns, ← Int32.not_le, w71_3, d114, d119, d148]), rfl⟩
            · skip
              by_cases w71_4 : mF M a 0 = 4
              · skip
                refine k_tin C 157 (by rw [w71_4]; decide) (by rw [w71_4]; decide) (by rw [w71_4]; rfl) dX10_doesAnswer_71 (by decide) ?_
                refine k_iload_n C 158 2 rfl rfl dX10_doesAnswer_157 rfl ?_
                refine k_if_eqB C 170 161 dX10_doesAnswer_158 (by decide) rfl (fun c158 => ?_) (fun d158 => ?_)
                · skip
                  refine k_iconst C 171 (v := 0) (by decide) dX10_doesAnswer_170 rfl ?_
                  refine k_ret C rfl dX10_doesAnswer_171 ?_
                  simp only [decide_eq_true_eq, decide_eq_false_iff_not] at c158
                  exact ⟨b2i_neg (by simp [pAns, ← Int32.not_le, w71_4, c158]), rfl⟩
                · skip
                  refine k_iload C 163 1  rfl dX10_doesAnswer_161 rfl ?_
                  refine k_if_eqB C 170 166 dX10_doesAnswer_163 (by decide) rfl (fun c163 => ?_) (fun d163 => ?_)
                  · skip
                    refine k_iconst C 171 (v := 0) (by decide) dX10_doesAnswer_170 rfl ?_
                    refine k_ret C rfl dX10_doesAnswer_171 ?_
                    simp only [decide_eq_true_eq, decide_eq_false_iff_not] at d158 c163
                    exact ⟨b2i_neg (by simp [pAns, ← Int32.not_le, w71_4, d158, c163]), rfl⟩
                  · skip
                    refine k_iconst C 167 (v := 1) (by decide) dX10_doesAnswer_166 rfl ?_
                    refine k_goto C 171 dX10_doesAnswer_167 (by decide) ?_
                    refine k_ret C rfl dX10_doesAnswer_171 ?_
                    simp only [decide_eq_true_eq, decide_eq_false_iff_not] at d158 d163
                    exact ⟨b2i_pos (by simp [pAns, ← Int32.not_le, w71_4, d158, d163]), rfl⟩
              · skip
                by_cases w71_5 : mF M a 0 = 5
                · skip
                  refine k_tin C 172 (by rw [w71_5]; decide) (by rw [w71_5]; decide) (by rw [w71_5]; rfl) dX10_doesAnswer_71 (by decide) ?_
                  refine k_iload C 174 0  rfl dX10_doesAnswer_172 rfl ?_
                  refine k_if_neB C 181 177 dX10_doesAnswer_174 (by decide) rfl (fun c174 => ?_) (fun d174 => ?_)
                  · skip
                    refine k_iconst C 182 (v := 0) (by decide) dX10_doesAnswer_181 rfl ?_
                    refine k_ret C rfl dX10_doesAnswer_182 ?_
                    simp only [decide_eq_true_eq, decide_eq_false_iff_not] at c174
                    exact ⟨b2i_neg (by simp [pAns, ← Int32.not_le, w71_5, c174]), rfl⟩
                  · skip
                    refine k_iconst C 178 (v := 1) (by decide) dX10_doesAnswer_177 rfl ?_
                    refine k_goto C 182 dX10_doesAnswer_178 (by decide) ?_
                    refine k_ret C rfl dX10_doesAnswer_182 ?_
                    simp only [decide_eq_true_eq, decide_eq_false_iff_not] at d174
                    exact ⟨b2i_pos (by simp [pAns, ← Int32.not_le, w71_5, d174]), rfl⟩
                · skip
                  by_cases w71_6 : mF M a 0 = 6
                  · skip
                    refine k_tin C 183 (by rw [w71_6]; decide) (by rw [w71_6]; decide) (by rw [w71_6]; rfl) dX10_doesAnswer_71 (by decide) ?_
                    refine k_iload_n C 184 2 rfl rfl dX10_doesAnswer_183 rfl ?_
                    refine k_if_neB C 207 187 dX10_doesAnswer_184 (by decide) rfl (fun c184 => ?_) (fun d184 => ?_)
                    · skip
                      refine k_iconst C 208 (v := 1) (by decide) dX10_doesAnswer_207 rfl ?_
                      refine k_goto C 212 dX10_doesAnswer_208 (by decide) ?_
                      refine k_ret C rfl dX10_doesAnswer_212 ?_
                      simp only [decide_eq_true_eq, decide_eq_false_iff_not] at c184
                      exact ⟨b2i_pos (by simp [pAns, ← Int32.not_le, w71_6, c184]), rfl⟩
                    · skip
                      refine k_iload C 189 1  rfl dX10_doesAnswer_187 rfl ?_
                      refine k_if_neB C 207 192 dX10_doesAnswer_189 (by decide) rfl (fun c189 => ?_) (fun d189 => ?_)
                      · skip
                        refine k_iconst C 208 (v := 1) (by decide) dX10_doesAnswer_207 rfl ?_
                        refine k_goto C 212 dX10_doesAnswer_208 (by decide) ?_
                        refine k_ret C rfl dX10_doesAnswer_212 ?_
                        simp only [decide_eq_true_eq, decide_eq_false_iff_not] at d184 c189
                        exact ⟨b2i_pos (by simp [pAns, ← Int32.not_le, w71_6, d184, c189]), rfl⟩
                      · skip
                        refine k_aload_n C 193 3 rfl rfl dX10_doesAnswer_192 rfl ?_
                        refine k_iload_n C 194 4 rfl rfl dX10_doesAnswer_193 rfl ?_
                        refine k_iconst C 195 (v := 4) (by decide) dX10_doesAnswer_194 rfl ?_
                        refine k_callVE C 198 (As := [.int (nI a), .int 4]) (st := []) 91 (by decide) (ce_91 g _) rfl rfl mwX10_58 vlX10_of (qX10_of l g M (f := a) (w := 4) (by omega) (by omega)) mlX10_of (by decide) (by decide) rfl rfl (Nat.le_of_ble_eq_true rfl) dX10_doesAnswer_195 rfl ?_
                        refine k_aload_n C 199 3 rfl rfl dX10_doesAnswer_198 rfl ?_
                        refine k_iload_n C 200 5 rfl rfl dX10_doesAnswer_199 rfl ?_
                        refine k_iconst C 201 (v := 4) (by decide) dX10_doesAnswer_200 rfl ?_
                        refine k_callVE C 204 (As := [.int (nI b), .int 4]) (st := [.int (mF M a 4)]) 91 (by decide) (ce_91 g _) rfl rfl mwX10_58 vlX10_of (qX10_of l g M (f := b) (w := 4) (by omega) (by omega)) mlX10_of (by decide) (by decide) rfl rfl (Nat.le_of_ble_eq_true rfl) dX10_doesAnswer_201 rfl ?_
                        refine k_icmp_ne C 211 207 dX10_doesAnswer_204 (by decide) rfl (fun c204 => ?_) (fun d204 => ?_)
                        · skip
                          refine k_iconst C 212 (v := 0) (by decide) dX10_doesAnswer_211 rfl ?_
                          refine k_ret C rfl dX10_doesAnswer_212 ?_
                          simp only [decide_eq_true_eq, decide_eq_false_iff_not] at d184 d189
                          exact ⟨b2i_neg (by simp [pAns, ← Int32.not_le, w71_6, d184, d189, c204]), rfl⟩
                        · skip
                          refine k_iconst C 208 (v := 1) (by decide) dX10_doesAnswer_207 rfl ?_
                          refine k_goto C 212 dX10_doesAnswer_208 (by decide) ?_
                          refine k_ret C rfl dX10_doesAnswer_212 ?_
                          simp only [decide_eq_true_eq, decide_eq_false_iff_not] at d184 d189
                          exact ⟨b2i_pos (by simp [pAns, ← Int32.not_le, w71_6, d184, d189, d204]), rfl⟩
                  · skip
                    refine k_tout C 213 (by have z0 := i_ne w71_1 (k := 1) rfl; have z1 := i_ne w71_2 (k := 2) rfl; have z2 := i_ne w71_3 (k := 3) rfl; have z3 := i_ne w71_4 (k := 4) rfl; have z4 := i_ne w71_5 (k := 5) rfl; have z5 := i_ne w71_6 (k := 6) rfl; omega) dX10_doesAnswer_71 (by decide) ?_
                    refine k_iload_n C 214 2 rfl rfl dX10_doesAnswer_213 rfl ?_
                    refine k_if_neB C 222 217 dX10_doesAnswer_214 (by decide) rfl (fun c214 => ?_) (fun d214 => ?_)
                    · skip
                      refine k_iconst C 223 (v := 1) (by decide) dX10_doesAnswer_222 rfl ?_
                      refine k_goto C 227 dX10_doesAnswer_223 (by decide) ?_
                      refine k_ret C rfl dX10_doesAnswer_227 ?_
                      simp only [decide_eq_true_eq, decide_eq_false_iff_not] at c214
                      exact ⟨b2i_pos (by simp [pAns, ← Int32.not_le, w71_1, w71_2, w71_3, w71_4, w71_5, w71_6, c214]), rfl⟩
                    · skip
                      refine k_iload C 219 1  rfl dX10_doesAnswer_217 rfl ?_
                      refine k_if_eqB C 226 222 dX10_doesAnswer_219 (by decide) rfl (fun c219 => ?_) (fun d219 => ?_)
                      · skip
                        refine k_iconst C 227 (v := 0) (by decide) dX10_doesAnswer_226 rfl ?_
                        refine k_ret C rfl dX10_doesAnswer_227 ?_
                        simp only [decide_eq_true_eq, decide_eq_false_iff_not] at d214 c219
                        exact ⟨b2i_neg (by simp [pAns, ← Int32.not_le, w71_1, w71_2, w71_3, w71_4, w71_5, w71_6, d214, c219]), rfl⟩
                      · skip
                        refine k_iconst C 223 (v := 1) (by decide) dX10_doesAnswer_222 rfl ?_
                        refine k_goto C 227 dX10_doesAnswer_223 (by decide) ?_
                        refine k_ret C rfl dX10_doesAnswer_227 ?_
                        simp only [decide_eq_true_eq, decide_eq_false_iff_not] at d214 d219
                        exact ⟨b2i_pos (by simp [pAns, ← Int32.not_le, w71_1, w71_2, w71_3, w71_4, w71_5, w71_6, d214, d219]), rfl⟩
      · skip
        refine k_icmp_lt C 62 58 dX10_doesAnswer_55 (by decide) rfl (fun c55 => ?_) (fun d55 => ?_)
        · skip
          refine k_iconst C 63 (v := 0) (by decide) dX10_doesAnswer_62 rfl ?_
          refine k_sub [(4, .int (b2i (decide (mF M a 3 = mF M b 3)))), (3, .int (b2i (decide (mF M a 2 = mF M b 2)))), (0, .ref (ga g 91)), (1, .int (nI a)), (2, .int (nI b))] [0, 1, 2, 3, 4] rfl ?_
          refine k_all (M' := M) (lo' := [(4, .int (b2i (decide (mF M a 3 = mF M b 3)))), (3, .int (b2i (decide (mF M a 2 = mF M b 2)))), (0, .ref (ga g 91)), (1, .int (nI a)), (2, .int (nI b))]) (st' := [.int (b2i (decide (mF M b 3 ≤ mF M a 3)))]) (by rfl) (by rfl) (by simp [b2i, c55]) ?_
          exact hJ63 () (show True from by trivial)
        · skip
          refine k_iconst C 59 (v := 1) (by decide) dX10_doesAnswer_58 rfl ?_
          refine k_goto C 63 dX10_doesAnswer_59 (by decide) ?_
          refine k_sub [(4, .int (b2i (decide (mF M a 3 = mF M b 3)))), (3, .int (b2i (decide (mF M a 2 = mF M b 2)))), (0, .ref (ga g 91)), (1, .int (nI a)), (2, .int (nI b))] [0, 1, 2, 3, 4] rfl ?_
          refine k_all (M' := M) (lo' := [(4, .int (b2i (decide (mF M a 3 = mF M b 3)))), (3, .int (b2i (decide (mF M a 2 = mF M b 2)))), (0, .ref (ga g 91)), (1, .int (nI a)), (2, .int (nI b))]) (st' := [.int (b2i (decide (mF M b 3 ≤ mF M a 3)))]) (by rfl) (by rfl) (by simp [b2i, d55]) ?_
          exact hJ63 () (show True from by trivial)
    · skip
      refine k_icmp_ne C 40 36 dX10_doesAnswer_33 (by decide) rfl (fun c33 => ?_) (fun d33 => ?_)
      · skip
        refine k_iconst C 41 (v := 0) (by decide) dX10_doesAnswer_40 rfl ?_
        refine k_sub [(3, .int (b2i (decide (mF M a 2 = mF M b 2)))), (0, .ref (ga g 91)), (1, .int (nI a)), (2, .int (nI b))] [0, 1, 2, 3] rfl ?_
        refine k_all (M' := M) (lo' := [(3, .int (b2i (decide (mF M a 2 = mF M b 2)))), (0, .ref (ga g 91)), (1, .int (nI a)), (2, .int (nI b))]) (st' := [.int (b2i (decide (mF M a 3 = mF M b 3)))]) (by rfl) (by rfl) (by simp [b2i, c33]) ?_
        exact hJ41 () (show True from by trivial)
      · skip
        refine k_iconst C 37 (v := 1) (by decide) dX10_doesAnswer_36 rfl ?_
        refine k_goto C 41 dX10_doesAnswer_37 (by decide) ?_
        refine k_sub [(3, .int (b2i (decide (mF M a 2 = mF M b 2)))), (0, .ref (ga g 91)), (1, .int (nI a)), (2, .int (nI b))] [0, 1, 2, 3] rfl ?_
        refine k_all (M' := M) (lo' := [(3, .int (b2i (decide (mF M a 2 = mF M b 2)))), (0, .ref (ga g 91)), (1, .int (nI a)), (2, .int (nI b))]) (st' := [.int (b2i (decide (mF M a 3 = mF M b 3)))]) (by rfl) (by rfl) (by simp [b2i, d33]) ?_
        exact hJ41 () (show True from by trivial)
  · skip
    refine k_icmp_ne C 19 15 dX10_doesAnswer_12 (by decide) rfl (fun c12 => ?_) (fun d12 => ?_)
    · skip
      refine k_iconst C 20 (v := 0) (by decide) dX10_doesAnswer_19 rfl ?_
      refine k_sub [(0, .ref (ga g 91)), (1, .int (nI a)), (2, .int (nI b))] [0, 1, 2] rfl ?_
      refine k_all (M' := M) (lo' := [(0, .ref (ga g 91)), (1, .int (nI a)), (2, .int (nI b))]) (st' := [.int (b2i (decide (mF M a 2 = mF M b 2)))]) (by rfl) (by rfl) (by simp [b2i, c12]) ?_
      exact hJ20 () (show True from by trivial)
    · skip
      refine k_iconst C 16 (v := 1) (by decide) dX10_doesAnswer_15 rfl ?_
      refine k_goto C 20 dX10_doesAnswer_16 (by decide) ?_
      refine k_sub [(0, .ref (ga g 91)), (1, .int (nI a)), (2, .int (nI b))] [0, 1, 2] rfl ?_
      refine k_all (M' := M) (lo' := [(0, .ref (ga g 91)), (1, .int (nI a)), (2, .int (nI b))]) (st' := [.int (b2i (decide (mF M a 2 = mF M b 2)))]) (by rfl) (by rfl) (by simp [b2i, d12]) ?_
      exact hJ20 () (show True from by trivial)
set_option maxHeartbeats 4000000 in
set_option maxRecDepth 20000 in
theorem qX10_depthOf (l : Launch) (g : GT) (M : Mem) {f : Nat} (hf : f < 12) : CtrE l g yX10_depthOf cX10_depthOf 3 (some .int) 1 [.ref (ga g 91), .int (nI f)] M (pDepth (mF M f)) M := by
  refine ctrI_of (by decide +kernel) (Nat.le_of_ble_eq_true rfl) ?_
  intro pP eE RR sS mI aG bB mE cD C
  refine k_lo (lo' := [(0, .ref (ga g 91)), (1, .int (nI f))]) rfl ?_
  refine k_aload_n C 1 0 rfl rfl dX10_depthOf_0 rfl ?_
  refine k_iload_n C 2 1 rfl rfl dX10_depthOf_1 rfl ?_
  refine k_iconst C 3 (v := 1) (by decide) dX10_depthOf_2 rfl ?_
  refine k_callVE C 6 (As := [.int (nI f), .int 1]) (st := []) 91 (by decide) (ce_91 g _) rfl rfl mwX10_58 vlX10_of (qX10_of l g M (f := f) (w := 1) (by omega) (by omega)) mlX10_of (by decide) (by decide) rfl rfl (Nat.le_of_ble_eq_true rfl) dX10_depthOf_3 rfl ?_
  refine k_istore_n C 7 [(2, .int (mF M f 1)), (0, .ref (ga g 91)), (1, .int (nI f))] rfl (by decide) rfl dX10_depthOf_6 rfl ?_
  refine k_aload_n C 8 1 rfl rfl dX10_depthOf_7 rfl ?_
  refine k_iload_n C 9 2 rfl rfl dX10_depthOf_8 rfl ?_
  refine k_iconst C 10 (v := 0) (by decide) dX10_depthOf_9 rfl ?_
  refine k_callVE C 13 (As := [.int (nI f), .int 0]) (st := []) 91 (by decide) (ce_91 g _) rfl rfl mwX10_58 vlX10_of (qX10_of l g M (f := f) (w := 0) (by omega) (by omega)) mlX10_of (by decide) (by decide) rfl rfl (Nat.le_of_ble_eq_true rfl) dX10_depthOf_10 rfl ?_
  by_cases w13_1 : mF M f 0 = 1
  · skip
    refine k_tin C 52 (by rw [w13_1]; decide) (by rw [w13_1]; decide) (by rw [w13_1]; rfl) dX10_depthOf_13 (by decide) ?_
    refine k_iload_n C 53 0 rfl rfl dX10_depthOf_52 rfl ?_
    refine k_iconst C 54 (v := 2) (by decide) dX10_depthOf_53 rfl ?_
    refine k_iadd C 55 dX10_depthOf_54 rfl ?_
    refine k_ret C rfl dX10_depthOf_55 ?_
    exact ⟨by simp [pDepth, w13_1], rfl⟩
  · skip
    by_cases w13_2 : mF M f 0 = 2
    · skip
      refine k_tin C 56 (by rw [w13_2]; decide) (by rw [w13_2]; decide) (by rw [w13_2]; rfl) dX10_depthOf_13 (by decide) ?_
      refine k_iconst C 57 (v := 2) (by decide) dX10_depthOf_56 rfl ?_
      refine k_iload_n C 58 0 rfl rfl dX10_depthOf_57 rfl ?_
      refine k_imul C 59 dX10_depthOf_58 rfl ?_
      refine k_ret C rfl dX10_depthOf_59 ?_
      exact ⟨by simp [pDepth, w13_2], rfl⟩
    · skip
      by_cases w13_4 : mF M f 0 = 4
      · skip
        refine k_tin C 60 (by rw [w13_4]; decide) (by rw [w13_4]; decide) (by rw [w13_4]; rfl) dX10_depthOf_13 (by decide) ?_
        refine k_iload_n C 61 0 rfl rfl dX10_depthOf_60 rfl ?_
        refine k_iconst C 62 (v := 2) (by decide) dX10_depthOf_61 rfl ?_
        refine k_iadd C 63 dX10_depthOf_62 rfl ?_
        refine k_aload_n C 64 1 rfl rfl dX10_depthOf_63 rfl ?_
        refine k_iload_n C 65 2 rfl rfl dX10_depthOf_64 rfl ?_
        refine k_iconst C 66 (v := 3) (by decide) dX10_depthOf_65 rfl ?_
        refine k_callVE C 69 (As := [.int (nI f), .int 3]) (st := [.int ((mF M f 1) + 2)]) 91 (by decide) (ce_91 g _) rfl rfl mwX10_58 vlX10_of (qX10_of l g M (f := f) (w := 3) (by omega) (by omega)) mlX10_of (by decide) (by decide) rfl rfl (Nat.le_of_ble_eq_true rfl) dX10_depthOf_66 rfl ?_
        refine k_iadd C 70 dX10_depthOf_69 rfl ?_
        refine k_ret C rfl dX10_depthOf_70 ?_
        exact ⟨by simp [pDepth, w13_4], rfl⟩
      · skip
        by_cases w13_5 : mF M f 0 = 5
        · skip
          refine k_tin C 71 (by rw [w13_5]; decide) (by rw [w13_5]; decide) (by rw [w13_5]; rfl) dX10_depthOf_13 (by decide) ?_
          refine k_iconst C 72 (v := 2) (by decide) dX10_depthOf_71 rfl ?_
          refine k_iload_n C 73 0 rfl rfl dX10_depthOf_72 rfl ?_
          refine k_imul C 74 dX10_depthOf_73 rfl ?_
          refine k_iconst C 75 (v := 1) (by decide) dX10_depthOf_74 rfl ?_
          refine k_isub C 76 dX10_depthOf_75 rfl ?_
          refine k_ret C rfl dX10_depthOf_76 ?_
          exact ⟨by simp [pDepth, w13_5], rfl⟩
        · skip
          by_cases w13_6 : mF M f 0 = 6
          · skip
            refine k_tin C 77 (by rw [w13_6]; decide) (by rw [w13_6]; decide) (by rw [w13_6]; rfl) dX10_depthOf_13 (by decide) ?_
            refine k_iload_n C 78 0 rfl rfl dX10_depthOf_77 rfl ?_
            refine k_aload_n C 79 1 rfl rfl dX10_depthOf_78 rfl ?_
            refine k_iload_n C 80 2 rfl rfl dX10_depthOf_79 rfl ?_
            refine k_iconst C 81 (v := 2) (by decide) dX10_depthOf_80 rfl ?_
            refine k_callVE C 84 (As := [.int (nI f), .int 2]) (st := [.int (mF M f 1)]) 91 (by decide) (ce_91 g _) rfl rfl mwX10_58 vlX10_of (qX10_of l g M (f := f) (w := 2) (by omega) (by omega)) mlX10_of (by decide) (by decide) rfl rfl (Nat.le_of_ble_eq_true rfl) dX10_depthOf_81 rfl ?_
            refine k_iadd C 85 dX10_depthOf_84 rfl ?_
            refine k_ret C rfl dX10_depthOf_85 ?_
            exact ⟨by simp [pDepth, w13_6], rfl⟩
          · skip
            by_cases w13_3 : mF M f 0 = 3
            · skip
              refine k_tin C 86 (by rw [w13_3]; decide) (by rw [w13_3]; decide) (by rw [w13_3]; rfl) dX10_depthOf_13 (by decide) ?_
              refine k_iload_n C 87 0 rfl rfl dX10_depthOf_86 rfl ?_
              refine k_ret C rfl dX10_depthOf_87 ?_
              exact ⟨by simp [pDepth, w13_1, w13_2, w13_4, w13_5, w13_6, w13_3], rfl⟩
            · skip
              refine k_tout C 86 (by have z0 := i_ne w13_1 (k := 1) rfl; have z1 := i_ne w13_2 (k := 2) rfl; have z2 := i_ne w13_4 (k := 4) rfl; have z3 := i_ne w13_5 (k := 5) rfl; have z4 := i_ne w13_6 (k := 6) rfl; have z5 := i_ne w13_3 (k := 3) rfl; omega) dX10_depthOf_13 (by decide) ?_
              refine k_iload_n C 87 0 rfl rfl dX10_depthOf_86 rfl ?_
              refine k_ret C rfl dX10_depthOf_87 ?_
              exact ⟨by simp [pDepth, w13_1, w13_2, w13_4, w13_5, w13_6, w13_3], rfl⟩
set_option maxHeartbeats 4000000 in
set_option maxRecDepth 20000 in
theorem qX10_isSeen (l : Launch) (g : GT) (M : Mem) {f : Nat} (hf : f < 12) : CtrE l g yX10_isSeen cX10_isSeen 2 (some .boolean) 1 [.ref (ga g 91), .int (nI f)] M (b2i (decide (mF M f 6 = 0))) M := by
  refine ctrI_of (by decide +kernel) (Nat.le_of_ble_eq_true rfl) ?_
  intro pP eE RR sS mI aG bB mE cD C
  refine k_lo (lo' := [(0, .ref (ga g 91)), (1, .int (nI f))]) rfl ?_
  refine k_aload_n C 1 0 rfl rfl dX10_isSeen_0 rfl ?_
  refine k_iload_n C 2 1 rfl rfl dX10_isSeen_1 rfl ?_
  refine k_bipush C 4 (v := 6) (by decide) dX10_isSeen_2 rfl ?_
  refine k_callVE C 7 (As := [.int (nI f), .int 6]) (st := []) 91 (by decide) (ce_91 g _) rfl rfl mwX10_58 vlX10_of (qX10_of l g M (f := f) (w := 6) (by omega) (by omega)) mlX10_of (by decide) (by decide) rfl rfl (Nat.le_of_ble_eq_true rfl) dX10_isSeen_4 rfl ?_
  refine k_if_ne C 14 10 dX10_isSeen_7 (by decide) rfl (fun c7 => ?_) (fun d7 => ?_)
  · skip
    refine k_iconst C 15 (v := 0) (by decide) dX10_isSeen_14 rfl ?_
    refine k_ret C rfl dX10_isSeen_15 ?_
    exact ⟨b2i_neg (by simp [c7]), rfl⟩
  · skip
    refine k_iconst C 11 (v := 1) (by decide) dX10_isSeen_10 rfl ?_
    refine k_goto C 15 dX10_isSeen_11 (by decide) ?_
    refine k_ret C rfl dX10_isSeen_15 ?_
    exact ⟨b2i_pos (by simp [d7]), rfl⟩
set_option maxHeartbeats 4000000 in
set_option maxRecDepth 20000 in
theorem qX10_behind (l : Launch) (g : GT) (M : Mem) {n : Nat} (hn : M 92 2 = nI n) (h12 : n ≤ 12) {f : Nat} (hf : f < n) : CtrE l g yX10_behind cX10_behind 3 (some .int) 2 [.ref (ga g 91), .int (nI f)] M (oI (pNx (mF M) (n - (f + 1)) (f + 1))) M := by
  refine ctrI_of (by decide +kernel) (Nat.le_of_ble_eq_true rfl) ?_
  intro pP eE RR sS mI aG bB mE cD C
  refine k_lo (lo' := [(0, .ref (ga g 91)), (1, .int (nI f))]) rfl ?_
  refine k_iload_n C 1 1 rfl rfl dX10_behind_0 rfl ?_
  refine k_iconst C 2 (v := 1) (by decide) dX10_behind_1 rfl ?_
  refine k_iadd C 3 dX10_behind_2 rfl ?_
  refine k_teq (nI_add f 1) ?_
  refine k_istore_n C 4 [(2, .int (nI (f + 1))), (0, .ref (ga g 91)), (1, .int (nI f))] rfl (by decide) rfl dX10_behind_3 rfl ?_
  refine k_sub [(0, .ref (ga g 91)), (2, .int (nI (f + 1)))] [1, 0] rfl ?_
  refine k_all (M' := M) (lo' := [(0, .ref (ga g 91)), (2, .int (nI (f + 1)))]) (st' := []) (by rfl) (by rfl) rfl ?_
  refine k_loop (σ := Nat) (fun (k : Nat) => (k ≤ n) ∧ (f + 1 ≤ k) ∧ (pNx (mF M) (n - (f + 1)) (f + 1) = pNx (mF M) (n - k) k)) (fun (k : Nat) => n - k) (fun (k : Nat) => M) (fun (k : Nat) => [(0, .ref (ga g 91)), (2, .int (nI k))]) (f + 1) (show ((f + 1) ≤ n) ∧ (f + 1 ≤ (f + 1)) ∧ (pNx (mF M) (n - (f + 1)) (f + 1) = pNx (mF M) (n - (f + 1)) (f + 1)) from by exact ⟨by omega, by omega, rfl⟩) ?_
  rintro k hI ih
  have hI : (k ≤ n) ∧ (f + 1 ≤ k) ∧ (pNx (mF M) (n - (f + 1)) (f + 1) = pNx (mF M) (n - k) k) := hI
  obtain ⟨hk, hk2, he⟩ := hI
  show KW pP l eE RR sS mI aG bB mE cD g 3 _ (M) 4 [(0, .ref (ga g 91)), (2, .int (nI k))] []
  refine k_iload_n C 5 1 rfl rfl dX10_behind_4 rfl ?_
  refine k_aload_n C 6 0 rfl rfl dX10_behind_5 rfl ?_
  refine k_get C 9 flX10_9 91 (by decide) (v := .ref (ga g 92)) (ce_91 g _) rfl dX10_behind_6 rfl ?_
  refine k_iconst C 10 (v := 2) (by decide) dX10_behind_9 rfl ?_
  refine k_iald C 11 92 2 (by decide) (ce_92 g) (by decide) rfl (by omega) dX10_behind_10 rfl ?_
  refine k_teq (y := nI n) hn ?_
  refine k_icmp_ge C 30 14 dX10_behind_11 (by decide) rfl (fun c11 => ?_) (fun d11 => ?_)
  · skip
    have c11 := (nI_leI (by omega) (by omega)).mp (show nI n ≤ nI k from c11)
    refine k_iconst C 31 (v := (-1)) (by decide) dX10_behind_30 rfl ?_
    refine k_ret C rfl dX10_behind_31 ?_
    exact ⟨by rw [he, pNx_end _ (by omega)]; rfl, rfl⟩
  · skip
    have d11 := mt (nI_leI (by omega) (by omega)).mpr (show ¬ (nI n ≤ nI k) from d11)
    refine k_aload_n C 15 0 rfl rfl dX10_behind_14 rfl ?_
    refine k_iload_n C 16 1 rfl rfl dX10_behind_15 rfl ?_
    refine k_callVE C 19 (As := [.int (nI k)]) (st := []) 91 (by decide) (ce_91 g _) rfl rfl mwX10_62 vlX10_isSeen (qX10_isSeen l g M (f := k) (by omega)) mlX10_isSeen (by decide) (by decide) rfl rfl (Nat.le_of_ble_eq_true rfl) dX10_behind_16 rfl ?_
    refine k_if_eqB C 24 22 dX10_behind_19 (by decide) rfl (fun c19 => ?_) (fun d19 => ?_)
    · skip
      refine k_iinc C 27 (nI (k + 1)) 1 [(2, .int (nI (k + 1))), (0, .ref (ga g 91))] rfl (iinc_p k) (by decide) rfl dX10_behind_24 rfl ?_
      refine k_goto C 4 dX10_behind_27 (by decide) ?_
      refine k_sub [(0, .ref (ga g 91)), (2, .int (nI (k + 1)))] [1, 0] rfl ?_
      refine k_all (M' := M) (lo' := [(0, .ref (ga g 91)), (2, .int (nI (k + 1)))]) (st' := []) (by rfl) (by rfl) rfl ?_
      exact ih (k + 1) (show ((k + 1) ≤ n) ∧ (f + 1 ≤ (k + 1)) ∧ (pNx (mF M) (n - (f + 1)) (f + 1) = pNx (mF M) (n - (k + 1)) (k + 1)) from by exact ⟨by omega, by omega, by rw [he, pNx_skip _ (by omega) (of_decide_eq_false c19)]⟩) (by show n - (k + 1) < _; omega)
    · skip
      refine k_iload_n C 23 1 rfl rfl dX10_behind_22 rfl ?_
      refine k_ret C rfl dX10_behind_23 ?_
      exact ⟨by rw [he, pNx_hit _ (by omega) (of_decide_eq_true d19)]; rfl, rfl⟩
set_option maxHeartbeats 4000000 in
set_option maxRecDepth 20000 in
theorem qX10_ahead (l : Launch) (g : GT) (M : Mem) {q : Nat} (hq : q ≤ 12) : CtrE l g yX10_ahead cX10_ahead 3 (some .int) 2 [.ref (ga g 91), .int (nI q)] M (oI (pAhead (mF M) q)) M := by
  refine ctrI_of (by decide +kernel) (Nat.le_of_ble_eq_true rfl) ?_
  intro pP eE RR sS mI aG bB mE cD C
  refine k_lo (lo' := [(0, .ref (ga g 91)), (1, .int (nI q))]) rfl ?_
  refine k_iload_n C 1 1 rfl rfl dX10_ahead_0 rfl ?_
  refine k_iconst C 2 (v := 1) (by decide) dX10_ahead_1 rfl ?_
  refine k_isub C 3 dX10_ahead_2 rfl ?_
  refine k_istore_n C 4 [(2, .int ((nI q) - 1)), (0, .ref (ga g 91)), (1, .int (nI q))] rfl (by decide) rfl dX10_ahead_3 rfl ?_
  refine k_sub [(0, .ref (ga g 91)), (2, .int ((nI q) - 1))] [1, 0] rfl ?_
  refine k_all (M' := M) (lo' := [(0, .ref (ga g 91)), (2, .int (nI q - 1))]) (st' := []) (by rfl) (by rfl) rfl ?_
  refine k_loop (σ := Nat) (fun (j : Nat) => (j ≤ q) ∧ (pAhead (mF M) q = pAhead (mF M) j)) (fun (j : Nat) => j) (fun (j : Nat) => M) (fun (j : Nat) => [(0, .ref (ga g 91)), (2, .int (nI j - 1))]) q (show (q ≤ q) ∧ (pAhead (mF M) q = pAhead (mF M) q) from by exact ⟨Nat.le_refl _, rfl⟩) ?_
  rintro j hI ih
  have hI : (j ≤ q) ∧ (pAhead (mF M) q = pAhead (mF M) j) := hI
  obtain ⟨hj, he⟩ := hI
  show KW pP l eE RR sS mI aG bB mE cD g 3 _ (M) 4 [(0, .ref (ga g 91)), (2, .int (nI j - 1))] []
  cases j with
  | zero =>
    refine k_lo (lo' := [(0, .ref (ga g 91)), (2, .int (-1))]) (by rw [show nI 0 - 1 = (-1 : Int32) by decide]) ?_
    refine k_iload_n C 5 1 rfl rfl dX10_ahead_4 rfl ?_
    refine k_if_lt C 24 8 dX10_ahead_5 (by decide) rfl (fun c5 => ?_) (fun d5 => ?_)
    · skip
      refine k_iconst C 25 (v := (-1)) (by decide) dX10_ahead_24 rfl ?_
      refine k_ret C rfl dX10_ahead_25 ?_
      exact ⟨by rw [he]; rfl, rfl⟩
    · skip
      exact absurd d5 (by decide)
  | succ j =>
    refine k_lo (lo' := [(0, .ref (ga g 91)), (2, .int (nI j))]) (by rw [nI_pred]) ?_
    refine k_iload_n C 5 1 rfl rfl dX10_ahead_4 rfl ?_
    refine k_if_lt C 24 8 dX10_ahead_5 (by decide) rfl (fun c5 => ?_) (fun d5 => ?_)
    · skip
      have c5 := (nI_ltI (by omega) (by omega)).mp (show nI j < nI 0 from c5)
      exact absurd c5 (by omega)
    · skip
      have d5 := mt (nI_ltI (by omega) (by omega)).mpr (show ¬ (nI j < nI 0) from d5)
      refine k_aload_n C 9 0 rfl rfl dX10_ahead_8 rfl ?_
      refine k_iload_n C 10 1 rfl rfl dX10_ahead_9 rfl ?_
      refine k_callVE C 13 (As := [.int (nI j)]) (st := []) 91 (by decide) (ce_91 g _) rfl rfl mwX10_62 vlX10_isSeen (qX10_isSeen l g M (f := j) (by omega)) mlX10_isSeen (by decide) (by decide) rfl rfl (Nat.le_of_ble_eq_true rfl) dX10_ahead_10 rfl ?_
      refine k_if_eqB C 18 16 dX10_ahead_13 (by decide) rfl (fun c13 => ?_) (fun d13 => ?_)
      · skip
        refine k_iinc C 21 (nI j - 1) 1 [(2, .int (nI j - 1)), (0, .ref (ga g 91))] rfl (iinc_m _) (by decide) rfl dX10_ahead_18 rfl ?_
        refine k_goto C 4 dX10_ahead_21 (by decide) ?_
        refine k_sub [(0, .ref (ga g 91)), (2, .int (nI j - 1))] [1, 0] rfl ?_
        refine k_all (M' := M) (lo' := [(0, .ref (ga g 91)), (2, .int (nI j - 1))]) (st' := []) (by rfl) (by rfl) rfl ?_
        exact ih j (show (j ≤ q) ∧ (pAhead (mF M) q = pAhead (mF M) j) from by exact ⟨by omega, by rw [he]; simp [pAhead, of_decide_eq_false c13]⟩) (by show j < _; omega)
      · skip
        refine k_iload_n C 17 1 rfl rfl dX10_ahead_16 rfl ?_
        refine k_ret C rfl dX10_ahead_17 ?_
        exact ⟨by rw [he]; simp [pAhead, of_decide_eq_true d13, oI], rfl⟩
set_option maxHeartbeats 4000000 in
set_option maxRecDepth 20000 in
theorem qX10_lastSeen (l : Launch) (g : GT) (M : Mem) {n : Nat} (hn : M 92 2 = nI n) (h12 : n ≤ 12)  : CtrE l g yX10_lastSeen cX10_lastSeen 1 (some .int) 3 [.ref (ga g 91)] M (oI (pAhead (mF M) n)) M := by
  refine ctrI_of (by decide +kernel) (Nat.le_of_ble_eq_true rfl) ?_
  intro pP eE RR sS mI aG bB mE cD C
  refine k_lo (lo' := [(0, .ref (ga g 91))]) rfl ?_
  refine k_aload_n C 1 0 rfl rfl dX10_lastSeen_0 rfl ?_
  refine k_aload_n C 2 0 rfl rfl dX10_lastSeen_1 rfl ?_
  refine k_get C 5 flX10_9 91 (by decide) (v := .ref (ga g 92)) (ce_91 g _) rfl dX10_lastSeen_2 rfl ?_
  refine k_iconst C 6 (v := 2) (by decide) dX10_lastSeen_5 rfl ?_
  refine k_iald C 7 92 2 (by decide) (ce_92 g) (by decide) rfl (by omega) dX10_lastSeen_6 rfl ?_
  refine k_teq (y := nI n) hn ?_
  refine k_callVE C 10 (As := [.int (nI n)]) (st := []) 91 (by decide) (ce_91 g _) rfl rfl mwX10_74 vlX10_ahead (qX10_ahead l g M (q := n) (by omega)) mlX10_ahead (by decide) (by decide) rfl rfl (Nat.le_of_ble_eq_true rfl) dX10_lastSeen_7 rfl ?_
  refine k_ret C rfl dX10_lastSeen_10 ?_
  exact ⟨rfl, rfl⟩
set_option maxHeartbeats 4000000 in
set_option maxRecDepth 20000 in
theorem qX10_isHeard (l : Launch) (g : GT) (M : Mem) {n : Nat} (hn : M 92 2 = nI n) (h12 : n ≤ 12) {f : Nat} (hf : f < n) : CtrE l g yX10_isHeard cX10_isHeard 3 (some .boolean) 3 [.ref (ga g 91), .int (nI f)] M (b2i (pHeard (mF M) n f)) M := by
  refine ctrI_of (by decide +kernel) (Nat.le_of_ble_eq_true rfl) ?_
  intro pP eE RR sS mI aG bB mE cD C
  refine k_lo (lo' := [(0, .ref (ga g 91)), (1, .int (nI f))]) rfl ?_
  refine k_aload_n C 1 0 rfl rfl dX10_isHeard_0 rfl ?_
  refine k_iload_n C 2 1 rfl rfl dX10_isHeard_1 rfl ?_
  refine k_callVE C 5 (As := [.int (nI f)]) (st := []) 91 (by decide) (ce_91 g _) rfl rfl mwX10_66 vlX10_behind (qX10_behind l g M (n := n) hn h12 (f := f) (by omega)) mlX10_behind (by decide) (by decide) rfl rfl (Nat.le_of_ble_eq_true rfl) dX10_isHeard_2 rfl ?_
  rcases q5 : pNx (mF M) (n - (f + 1)) (f + 1) with _ | k
  · skip
    have q5n := q5
    refine k_teq (y := (-1)) rfl ?_
    refine k_istore_n C 6 [(2, .int (-1)), (0, .ref (ga g 91)), (1, .int (nI f))] rfl (by decide) rfl dX10_isHeard_5 rfl ?_
    refine k_iload_n C 7 0 rfl rfl dX10_isHeard_6 rfl ?_
    refine k_if_lt C 23 10 dX10_isHeard_7 (by decide) rfl (fun c7 => ?_) (fun d7 => ?_)
    · skip
      refine k_iconst C 24 (v := 0) (by decide) dX10_isHeard_23 rfl ?_
      refine k_ret C rfl dX10_isHeard_24 ?_
      exact ⟨b2i_neg (by unfold pHeard; rw [q5]), rfl⟩
    · skip
      exact absurd d7 (by decide)
  · skip
    have q5s := q5
    refine k_teq (y := nI k) rfl ?_
    have hk := pNx_in _ _ _ _ q5
    refine k_istore_n C 6 [(2, .int (nI k)), (0, .ref (ga g 91)), (1, .int (nI f))] rfl (by decide) rfl dX10_isHeard_5 rfl ?_
    refine k_iload_n C 7 0 rfl rfl dX10_isHeard_6 rfl ?_
    refine k_if_lt C 23 10 dX10_isHeard_7 (by decide) rfl (fun c7 => ?_) (fun d7 => ?_)
    · skip
      have c7 := (nI_ltI (by omega) (by omega)).mp (show nI k < nI 0 from c7)
      exact absurd c7 (by omega)
    · skip
      have d7 := mt (nI_ltI (by omega) (by omega)).mpr (show ¬ (nI k < nI 0) from d7)
      refine k_aload_n C 11 1 rfl rfl dX10_isHeard_10 rfl ?_
      refine k_iload_n C 12 0 rfl rfl dX10_isHeard_11 rfl ?_
      refine k_iload_n C 13 2 rfl rfl dX10_isHeard_12 rfl ?_
      refine k_callVE C 16 (As := [.int (nI k), .int (nI f)]) (st := []) 91 (by decide) (ce_91 g _) rfl rfl mwX10_70 vlX10_doesAnswer (qX10_doesAnswer l g M (a := k) (b := f) (by omega) (by omega)) mlX10_doesAnswer (by decide) (by decide) rfl rfl (Nat.le_of_ble_eq_true rfl) dX10_isHeard_13 rfl ?_
      refine k_if_eqB C 23 19 dX10_isHeard_16 (by decide) rfl (fun c16 => ?_) (fun d16 => ?_)
      · skip
        refine k_iconst C 24 (v := 0) (by decide) dX10_isHeard_23 rfl ?_
        refine k_ret C rfl dX10_isHeard_24 ?_
        exact ⟨b2i_neg (by unfold pHeard; rw [q5]; exact c16), rfl⟩
      · skip
        refine k_iconst C 20 (v := 1) (by decide) dX10_isHeard_19 rfl ?_
        refine k_goto C 24 dX10_isHeard_20 (by decide) ?_
        refine k_ret C rfl dX10_isHeard_24 ?_
        exact ⟨b2i_pos (by unfold pHeard; rw [q5]; exact d16), rfl⟩
set_option maxHeartbeats 4000000 in
set_option maxRecDepth 20000 in
theorem qX10_isAnswer (l : Launch) (g : GT) (M : Mem) {f : Nat} (hf : f < 12) : CtrE l g yX10_isAnswer cX10_isAnswer 3 (some .boolean) 3 [.ref (ga g 91), .int (nI f)] M (b2i (pIsAns (mF M) f)) M := by
  refine ctrI_of (by decide +kernel) (Nat.le_of_ble_eq_true rfl) ?_
  intro pP eE RR sS mI aG bB mE cD C
  refine k_lo (lo' := [(0, .ref (ga g 91)), (1, .int (nI f))]) rfl ?_
  refine k_aload_n C 1 0 rfl rfl dX10_isAnswer_0 rfl ?_
  refine k_iload_n C 2 1 rfl rfl dX10_isAnswer_1 rfl ?_
  refine k_callVE C 5 (As := [.int (nI f)]) (st := []) 91 (by decide) (ce_91 g _) rfl rfl mwX10_74 vlX10_ahead (qX10_ahead l g M (q := f) (by omega)) mlX10_ahead (by decide) (by decide) rfl rfl (Nat.le_of_ble_eq_true rfl) dX10_isAnswer_2 rfl ?_
  rcases q5 : pAhead (mF M) f with _ | a
  · skip
    have q5n := q5
    refine k_teq (y := (-1)) rfl ?_
    refine k_istore_n C 6 [(2, .int (-1)), (0, .ref (ga g 91)), (1, .int (nI f))] rfl (by decide) rfl dX10_isAnswer_5 rfl ?_
    refine k_aload_n C 7 1 rfl rfl dX10_isAnswer_6 rfl ?_
    refine k_iload_n C 8 2 rfl rfl dX10_isAnswer_7 rfl ?_
    refine k_callVE C 11 (As := [.int (nI f)]) (st := []) 91 (by decide) (ce_91 g _) rfl rfl mwX10_62 vlX10_isSeen (qX10_isSeen l g M (f := f) (by omega)) mlX10_isSeen (by decide) (by decide) rfl rfl (Nat.le_of_ble_eq_true rfl) dX10_isAnswer_8 rfl ?_
    refine k_if_eqB C 31 14 dX10_isAnswer_11 (by decide) rfl (fun c11 => ?_) (fun d11 => ?_)
    · skip
      refine k_iconst C 32 (v := 0) (by decide) dX10_isAnswer_31 rfl ?_
      refine k_ret C rfl dX10_isAnswer_32 ?_
      exact ⟨b2i_neg (by unfold pIsAns; rw [if_neg (of_decide_eq_false c11)]), rfl⟩
    · skip
      refine k_iload_n C 15 0 rfl rfl dX10_isAnswer_14 rfl ?_
      refine k_if_lt C 31 18 dX10_isAnswer_15 (by decide) rfl (fun c15 => ?_) (fun d15 => ?_)
      · skip
        refine k_iconst C 32 (v := 0) (by decide) dX10_isAnswer_31 rfl ?_
        refine k_ret C rfl dX10_isAnswer_32 ?_
        exact ⟨b2i_neg (by unfold pIsAns; rw [if_pos (of_decide_eq_true d11), q5]), rfl⟩
      · skip
        exact absurd d15 (by decide)
  · skip
    have q5s := q5
    refine k_teq (y := nI a) rfl ?_
    have ha := pAhead_in _ _ _ q5
    refine k_istore_n C 6 [(2, .int (nI a)), (0, .ref (ga g 91)), (1, .int (nI f))] rfl (by decide) rfl dX10_isAnswer_5 rfl ?_
    refine k_aload_n C 7 1 rfl rfl dX10_isAnswer_6 rfl ?_
    refine k_iload_n C 8 2 rfl rfl dX10_isAnswer_7 rfl ?_
    refine k_callVE C 11 (As := [.int (nI f)]) (st := []) 91 (by decide) (ce_91 g _) rfl rfl mwX10_62 vlX10_isSeen (qX10_isSeen l g M (f := f) (by omega)) mlX10_isSeen (by decide) (by decide) rfl rfl (Nat.le_of_ble_eq_true rfl) dX10_isAnswer_8 rfl ?_
    refine k_if_eqB C 31 14 dX10_isAnswer_11 (by decide) rfl (fun c11 => ?_) (fun d11 => ?_)
    · skip
      refine k_iconst C 32 (v := 0) (by decide) dX10_isAnswer_31 rfl ?_
      refine k_ret C rfl dX10_isAnswer_32 ?_
      exact ⟨b2i_neg (by unfold pIsAns; rw [if_neg (of_decide_eq_false c11)]), rfl⟩
    · skip
      refine k_iload_n C 15 0 rfl rfl dX10_isAnswer_14 rfl ?_
      refine k_if_lt C 31 18 dX10_isAnswer_15 (by decide) rfl (fun c15 => ?_) (fun d15 => ?_)
      · skip
        have c15 := (nI_ltI (by omega) (by omega)).mp (show nI a < nI 0 from c15)
        exact absurd c15 (by omega)
      · skip
        have d15 := mt (nI_ltI (by omega) (by omega)).mpr (show ¬ (nI a < nI 0) from d15)
        refine k_aload_n C 19 1 rfl rfl dX10_isAnswer_18 rfl ?_
        refine k_iload_n C 20 2 rfl rfl dX10_isAnswer_19 rfl ?_
        refine k_iload_n C 21 0 rfl rfl dX10_isAnswer_20 rfl ?_
        refine k_callVE C 24 (As := [.int (nI f), .int (nI a)]) (st := []) 91 (by decide) (ce_91 g _) rfl rfl mwX10_70 vlX10_doesAnswer (qX10_doesAnswer l g M (a := f) (b := a) (by omega) (by omega)) mlX10_doesAnswer (by decide) (by decide) rfl rfl (Nat.le_of_ble_eq_true rfl) dX10_isAnswer_21 rfl ?_
        refine k_if_eqB C 31 27 dX10_isAnswer_24 (by decide) rfl (fun c24 => ?_) (fun d24 => ?_)
        · skip
          refine k_iconst C 32 (v := 0) (by decide) dX10_isAnswer_31 rfl ?_
          refine k_ret C rfl dX10_isAnswer_32 ?_
          exact ⟨b2i_neg (by unfold pIsAns; rw [if_pos (of_decide_eq_true d11), q5]; exact c24), rfl⟩
        · skip
          refine k_iconst C 28 (v := 1) (by decide) dX10_isAnswer_27 rfl ?_
          refine k_goto C 32 dX10_isAnswer_28 (by decide) ?_
          refine k_ret C rfl dX10_isAnswer_32 ?_
          exact ⟨b2i_pos (by unfold pIsAns; rw [if_pos (of_decide_eq_true d11), q5]; exact d24), rfl⟩
set_option maxHeartbeats 4000000 in
set_option maxRecDepth 20000 in
theorem qX10_seen (l : Launch) (g : GT) (M : Mem) {n : Nat} (hn : M 92 2 = nI n) (h12 : n ≤ 12)  : CtrE l g yX10_seen cX10_seen 3 (some .int) 2 [.ref (ga g 91)] M (nI (pSet (mF M) n)) M := by
  refine ctrI_of (by decide +kernel) (Nat.le_of_ble_eq_true rfl) ?_
  intro pP eE RR sS mI aG bB mE cD C
  refine k_lo (lo' := [(0, .ref (ga g 91))]) rfl ?_
  refine k_iconst C 1 (v := 0) (by decide) dX10_seen_0 rfl ?_
  refine k_istore_n C 2 [(1, .int 0), (0, .ref (ga g 91))] rfl (by decide) rfl dX10_seen_1 rfl ?_
  refine k_iconst C 3 (v := 0) (by decide) dX10_seen_2 rfl ?_
  refine k_istore_n C 4 [(2, .int 0), (1, .int 0), (0, .ref (ga g 91))] rfl (by decide) rfl dX10_seen_3 rfl ?_
  refine k_sub [(0, .ref (ga g 91)), (1, .int 0), (2, .int 0)] [2, 1, 0] rfl ?_
  refine k_all (M' := M) (lo' := [(0, .ref (ga g 91)), (1, .int (nI (pSet (mF M) 0))), (2, .int (nI 0))]) (st' := []) (by rfl) (by rfl) rfl ?_
  refine k_loop (σ := Nat) (fun (i : Nat) => (i ≤ n)) (fun (i : Nat) => n - i) (fun (i : Nat) => M) (fun (i : Nat) => [(0, .ref (ga g 91)), (1, .int (nI (pSet (mF M) i))), (2, .int (nI i))]) 0 (show (0 ≤ n) from by exact Nat.zero_le _) ?_
  rintro i hI ih
  have hI : (i ≤ n) := hI
  have hi := hI
  show KW pP l eE RR sS mI aG bB mE cD g 3 _ (M) 4 [(0, .ref (ga g 91)), (1, .int (nI (pSet (mF M) i))), (2, .int (nI i))] []
  have hs := pSet_lt (mF M) i
  refine k_iload_n C 5 2 rfl rfl dX10_seen_4 rfl ?_
  refine k_aload_n C 6 0 rfl rfl dX10_seen_5 rfl ?_
  refine k_get C 9 flX10_9 91 (by decide) (v := .ref (ga g 92)) (ce_91 g _) rfl dX10_seen_6 rfl ?_
  refine k_iconst C 10 (v := 2) (by decide) dX10_seen_9 rfl ?_
  refine k_iald C 11 92 2 (by decide) (ce_92 g) (by decide) rfl (by omega) dX10_seen_10 rfl ?_
  refine k_teq (y := nI n) hn ?_
  refine k_icmp_ge C 38 14 dX10_seen_11 (by decide) rfl (fun c11 => ?_) (fun d11 => ?_)
  · skip
    have c11 := (nI_leI (by omega) (by omega)).mp (show nI n ≤ nI i from c11)
    refine k_iload_n C 39 1 rfl rfl dX10_seen_38 rfl ?_
    refine k_ret C rfl dX10_seen_39 ?_
    exact ⟨by rw [show i = n by omega], rfl⟩
  · skip
    have d11 := mt (nI_leI (by omega) (by omega)).mpr (show ¬ (nI n ≤ nI i) from d11)
    refine k_iload_n C 15 1 rfl rfl dX10_seen_14 rfl ?_
    refine k_aload_n C 16 0 rfl rfl dX10_seen_15 rfl ?_
    refine k_iload_n C 17 2 rfl rfl dX10_seen_16 rfl ?_
    refine k_callVE C 20 (As := [.int (nI i)]) (st := [.int (nI (pSet (mF M) i))]) 91 (by decide) (ce_91 g _) rfl rfl mwX10_62 vlX10_isSeen (qX10_isSeen l g M (f := i) (by omega)) mlX10_isSeen (by decide) (by decide) rfl rfl (Nat.le_of_ble_eq_true rfl) dX10_seen_17 rfl ?_
    refine k_if_eqB C 29 23 dX10_seen_20 (by decide) rfl (fun c20 => ?_) (fun d20 => ?_)
    · skip
      refine k_iconst C 30 (v := 0) (by decide) dX10_seen_29 rfl ?_
      refine k_ior C 31 dX10_seen_30 rfl ?_
      refine k_istore_n C 32 [(1, .int ((nI (pSet (mF M) i)) ||| 0)), (0, .ref (ga g 91)), (2, .int (nI i))] rfl (by decide) rfl dX10_seen_31 rfl ?_
      refine k_iinc C 35 (nI (i + 1)) 2 [(2, .int (nI (i + 1))), (1, .int ((nI (pSet (mF M) i)) ||| 0)), (0, .ref (ga g 91))] rfl (iinc_p i) (by decide) rfl dX10_seen_32 rfl ?_
      refine k_goto C 4 dX10_seen_35 (by decide) ?_
      refine k_sub [(0, .ref (ga g 91)), (1, .int ((nI (pSet (mF M) i)) ||| 0)), (2, .int (nI (i + 1)))] [2, 1, 0] rfl ?_
      refine k_all (M' := M) (lo' := [(0, .ref (ga g 91)), (1, .int (nI (pSet (mF M) (i + 1)))), (2, .int (nI (i + 1)))]) (st' := []) (by rfl) (by rw [show pSet (mF M) (i + 1) = pSet (mF M) i from if_neg (of_decide_eq_false c20), i_or0]) rfl ?_
      exact ih (i + 1) (show ((i + 1) ≤ n) from by omega) (by show n - (i + 1) < _; omega)
    · skip
      refine k_iconst C 24 (v := 1) (by decide) dX10_seen_23 rfl ?_
      refine k_iload_n C 25 2 rfl rfl dX10_seen_24 rfl ?_
      refine k_ishl C 26 dX10_seen_25 rfl ?_
      refine k_goto C 30 dX10_seen_26 (by decide) ?_
      refine k_ior C 31 dX10_seen_30 rfl ?_
      refine k_istore_n C 32 [(1, .int ((nI (pSet (mF M) i)) ||| (1 <<< ((nI i) &&& 31)))), (0, .ref (ga g 91)), (2, .int (nI i))] rfl (by decide) rfl dX10_seen_31 rfl ?_
      refine k_iinc C 35 (nI (i + 1)) 2 [(2, .int (nI (i + 1))), (1, .int ((nI (pSet (mF M) i)) ||| (1 <<< ((nI i) &&& 31)))), (0, .ref (ga g 91))] rfl (iinc_p i) (by decide) rfl dX10_seen_32 rfl ?_
      refine k_goto C 4 dX10_seen_35 (by decide) ?_
      refine k_sub [(0, .ref (ga g 91)), (1, .int ((nI (pSet (mF M) i)) ||| (1 <<< ((nI i) &&& 31)))), (2, .int (nI (i + 1)))] [2, 1, 0] rfl ?_
      refine k_all (M' := M) (lo' := [(0, .ref (ga g 91)), (1, .int (nI (pSet (mF M) (i + 1)))), (2, .int (nI (i + 1)))]) (st' := []) (by rfl) (by rw [show pSet (mF M) (i + 1) = pSet (mF M) i + 2 ^ i from if_pos (of_decide_eq_true d20), ← or_bit i (by omega) _ (pSet_lt _ _)]) rfl ?_
      exact ih (i + 1) (show ((i + 1) ≤ n) from by omega) (by show n - (i + 1) < _; omega)
set_option maxHeartbeats 4000000 in
set_option maxRecDepth 20000 in
theorem qX10_comes (l : Launch) (g : GT) (M : Mem) {n : Nat} (hn : M 92 2 = nI n) (h12 : n < 12) (km lo cr hand : Int32) : CtrE l g yX10_comes cX10_comes 6 (some .int) 1 [.ref (ga g 91), .int km, .int lo, .int cr, .int hand] M (nI n) (pCome M n km lo cr hand) := by
  refine ctrI_of (by decide +kernel) (Nat.le_of_ble_eq_true rfl) ?_
  intro pP eE RR sS mI aG bB mE cD C
  refine k_lo (lo' := [(0, .ref (ga g 91)), (1, .int km), (2, .int lo), (3, .int cr), (4, .int hand)]) rfl ?_
  refine k_aload_n C 1 0 rfl rfl dX10_comes_0 rfl ?_
  refine k_get C 4 flX10_9 91 (by decide) (v := .ref (ga g 92)) (ce_91 g _) rfl dX10_comes_1 rfl ?_
  refine k_iconst C 5 (v := 2) (by decide) dX10_comes_4 rfl ?_
  refine k_iald C 6 92 2 (by decide) (ce_92 g) (by decide) rfl (by omega) dX10_comes_5 rfl ?_
  refine k_teq (y := nI n) hn ?_
  refine k_istore C 8 [(5, .int (nI n)), (0, .ref (ga g 91)), (1, .int km), (2, .int lo), (3, .int cr), (4, .int hand)]  (by decide) rfl dX10_comes_6 rfl ?_
  refine k_aload_n C 9 1 rfl rfl dX10_comes_8 rfl ?_
  refine k_get C 12 flX10_9 91 (by decide) (v := .ref (ga g 92)) (ce_91 g _) rfl dX10_comes_9 rfl ?_
  refine k_iconst C 13 (v := 2) (by decide) dX10_comes_12 rfl ?_
  refine k_dup2 C 14 rfl rfl dX10_comes_13 rfl ?_
  refine k_iald C 15 92 2 (by decide) (ce_92 g) (by decide) rfl (by omega) dX10_comes_14 rfl ?_
  refine k_teq (y := nI n) hn ?_
  refine k_iconst C 16 (v := 1) (by decide) dX10_comes_15 rfl ?_
  refine k_iadd C 17 dX10_comes_16 rfl ?_
  refine k_teq (nI_add n 1) ?_
  refine k_iast C 18 92 2 (by decide) (ce_92 g) (by decide) rfl (by omega) dX10_comes_17 rfl ?_
  refine k_aload_n C 19 1 rfl rfl dX10_comes_18 rfl ?_
  refine k_iload C 21 0  rfl dX10_comes_19 rfl ?_
  refine k_iconst C 22 (v := 0) (by decide) dX10_comes_21 rfl ?_
  refine k_iload_n C 23 2 rfl rfl dX10_comes_22 rfl ?_
  refine k_bipush C 25 (v := 10) (by decide) dX10_comes_23 rfl ?_
  refine k_idiv C 26 (by decide) dX10_comes_25 rfl ?_
  refine k_callVU C 29 (As := [.int (nI n), .int 0, .int (km / 10)]) (st := []) 91 (by decide) (ce_91 g _) rfl rfl mwX10_84 vlX10_lets (qX10_lets l g (mu M 92 2 (nI (n + 1))) (f := n) (w := 0) (by omega) (by omega) (km / 10)) mlX10_lets (by decide) (by decide) rfl rfl (Nat.le_of_ble_eq_true rfl) dX10_comes_26 rfl ?_
  refine k_aload_n C 30 1 rfl rfl dX10_comes_29 rfl ?_
  refine k_iload C 32 0  rfl dX10_comes_30 rfl ?_
  refine k_iconst C 33 (v := 1) (by decide) dX10_comes_32 rfl ?_
  refine k_iload_n C 34 2 rfl rfl dX10_comes_33 rfl ?_
  refine k_bipush C 36 (v := 10) (by decide) dX10_comes_34 rfl ?_
  refine k_irem C 37 (by decide) dX10_comes_36 rfl ?_
  refine k_callVU C 40 (As := [.int (nI n), .int 1, .int (km - km / 10 * 10)]) (st := []) 91 (by decide) (ce_91 g _) rfl rfl mwX10_84 vlX10_lets (qX10_lets l g (mu (mu M 92 2 (nI (n + 1))) 92 (6 + 7 * n + 0) (km / 10)) (f := n) (w := 1) (by omega) (by omega) (km - km / 10 * 10)) mlX10_lets (by decide) (by decide) rfl rfl (Nat.le_of_ble_eq_true rfl) dX10_comes_37 rfl ?_
  refine k_aload_n C 41 1 rfl rfl dX10_comes_40 rfl ?_
  refine k_iload C 43 0  rfl dX10_comes_41 rfl ?_
  refine k_iconst C 44 (v := 2) (by decide) dX10_comes_43 rfl ?_
  refine k_iload_n C 45 3 rfl rfl dX10_comes_44 rfl ?_
  refine k_callVU C 48 (As := [.int (nI n), .int 2, .int lo]) (st := []) 91 (by decide) (ce_91 g _) rfl rfl mwX10_84 vlX10_lets (qX10_lets l g (mu (mu (mu M 92 2 (nI (n + 1))) 92 (6 + 7 * n + 0) (km / 10)) 92 (6 + 7 * n + 1) (km - km / 10 * 10)) (f := n) (w := 2) (by omega) (by omega) lo) mlX10_lets (by decide) (by decide) rfl rfl (Nat.le_of_ble_eq_true rfl) dX10_comes_45 rfl ?_
  refine k_aload_n C 49 1 rfl rfl dX10_comes_48 rfl ?_
  refine k_iload C 51 0  rfl dX10_comes_49 rfl ?_
  refine k_iconst C 52 (v := 3) (by decide) dX10_comes_51 rfl ?_
  refine k_iload_n C 53 4 rfl rfl dX10_comes_52 rfl ?_
  refine k_callVU C 56 (As := [.int (nI n), .int 3, .int cr]) (st := []) 91 (by decide) (ce_91 g _) rfl rfl mwX10_84 vlX10_lets (qX10_lets l g (mu (mu (mu (mu M 92 2 (nI (n + 1))) 92 (6 + 7 * n + 0) (km / 10)) 92 (6 + 7 * n + 1) (km - km / 10 * 10)) 92 (6 + 7 * n + 2) lo) (f := n) (w := 3) (by omega) (by omega) cr) mlX10_lets (by decide) (by decide) rfl rfl (Nat.le_of_ble_eq_true rfl) dX10_comes_53 rfl ?_
  refine k_aload_n C 57 1 rfl rfl dX10_comes_56 rfl ?_
  refine k_iload C 59 0  rfl dX10_comes_57 rfl ?_
  refine k_iconst C 60 (v := 4) (by decide) dX10_comes_59 rfl ?_
  refine k_iload C 62 5  rfl dX10_comes_60 rfl ?_
  refine k_callVU C 65 (As := [.int (nI n), .int 4, .int hand]) (st := []) 91 (by decide) (ce_91 g _) rfl rfl mwX10_84 vlX10_lets (qX10_lets l g (mu (mu (mu (mu (mu M 92 2 (nI (n + 1))) 92 (6 + 7 * n + 0) (km / 10)) 92 (6 + 7 * n + 1) (km - km / 10 * 10)) 92 (6 + 7 * n + 2) lo) 92 (6 + 7 * n + 3) cr) (f := n) (w := 4) (by omega) (by omega) hand) mlX10_lets (by decide) (by decide) rfl rfl (Nat.le_of_ble_eq_true rfl) dX10_comes_62 rfl ?_
  refine k_aload_n C 66 1 rfl rfl dX10_comes_65 rfl ?_
  refine k_iload C 68 0  rfl dX10_comes_66 rfl ?_
  refine k_iconst C 69 (v := 5) (by decide) dX10_comes_68 rfl ?_
  refine k_iconst C 70 (v := 0) (by decide) dX10_comes_69 rfl ?_
  refine k_callVU C 73 (As := [.int (nI n), .int 5, .int 0]) (st := []) 91 (by decide) (ce_91 g _) rfl rfl mwX10_84 vlX10_lets (qX10_lets l g (mu (mu (mu (mu (mu (mu M 92 2 (nI (n + 1))) 92 (6 + 7 * n + 0) (km / 10)) 92 (6 + 7 * n + 1) (km - km / 10 * 10)) 92 (6 + 7 * n + 2) lo) 92 (6 + 7 * n + 3) cr) 92 (6 + 7 * n + 4) hand) (f := n) (w := 5) (by omega) (by omega) 0) mlX10_lets (by decide) (by decide) rfl rfl (Nat.le_of_ble_eq_true rfl) dX10_comes_70 rfl ?_
  refine k_aload_n C 74 1 rfl rfl dX10_comes_73 rfl ?_
  refine k_iload C 76 0  rfl dX10_comes_74 rfl ?_
  refine k_bipush C 78 (v := 6) (by decide) dX10_comes_76 rfl ?_
  refine k_iconst C 79 (v := 0) (by decide) dX10_comes_78 rfl ?_
  refine k_callVU C 82 (As := [.int (nI n), .int 6, .int 0]) (st := []) 91 (by decide) (ce_91 g _) rfl rfl mwX10_84 vlX10_lets (qX10_lets l g (mu (mu (mu (mu (mu (mu (mu M 92 2 (nI (n + 1))) 92 (6 + 7 * n + 0) (km / 10)) 92 (6 + 7 * n + 1) (km - km / 10 * 10)) 92 (6 + 7 * n + 2) lo) 92 (6 + 7 * n + 3) cr) 92 (6 + 7 * n + 4) hand) 92 (6 + 7 * n + 5) 0) (f := n) (w := 6) (by omega) (by omega) 0) mlX10_lets (by decide) (by decide) rfl rfl (Nat.le_of_ble_eq_true rfl) dX10_comes_79 rfl ?_
  refine k_iload C 84 0  rfl dX10_comes_82 rfl ?_
  refine k_ret C rfl dX10_comes_84 ?_
  exact ⟨rfl, rfl⟩
set_option maxHeartbeats 4000000 in
set_option maxRecDepth 20000 in
theorem qX10_goes (l : Launch) (g : GT) (M : Mem) {n : Nat} (hn : M 92 2 = nI n) (h12 : n ≤ 12)  : CtrV l g yX10_goes cX10_goes 3 4 [.ref (ga g 91)] M (fun M1 => goesTo M M1 n (M 92 3)) := by
  refine ctrV_of (by decide +kernel) (Nat.le_of_ble_eq_true rfl) ?_
  intro pP eE RR sS mI aG bB mE cD C
  refine k_lo (lo' := [(0, .ref (ga g 91))]) rfl ?_
  refine k_iconst C 1 (v := 0) (by decide) dX10_goes_0 rfl ?_
  refine k_istore_n C 2 [(1, .int 0), (0, .ref (ga g 91))] rfl (by decide) rfl dX10_goes_1 rfl ?_
  refine k_iconst C 3 (v := 0) (by decide) dX10_goes_2 rfl ?_
  refine k_istore_n C 4 [(2, .int 0), (1, .int 0), (0, .ref (ga g 91))] rfl (by decide) rfl dX10_goes_3 rfl ?_
  refine k_sub [(0, .ref (ga g 91)), (1, .int 0), (2, .int 0)] [2, 1, 0] rfl ?_
  refine k_all (M' := M) (lo' := [(0, .ref (ga g 91)), (1, .int (nI (pHS (mF M) n 0))), (2, .int (nI 0))]) (st' := []) (by rfl) (by rfl) rfl ?_
  refine k_loop (σ := Nat) (fun (i : Nat) => (i ≤ n)) (fun (i : Nat) => n - i) (fun (i : Nat) => M) (fun (i : Nat) => [(0, .ref (ga g 91)), (1, .int (nI (pHS (mF M) n i))), (2, .int (nI i))]) 0 (show (0 ≤ n) from by exact Nat.zero_le _) ?_
  rintro i hI ih
  have hI : (i ≤ n) := hI
  have hi := hI
  show KW pP l eE RR sS mI aG bB mE cD g 3 _ (M) 4 [(0, .ref (ga g 91)), (1, .int (nI (pHS (mF M) n i))), (2, .int (nI i))] []
  have hs := pHS_lt (mF M) n i
  refine k_iload_n C 5 2 rfl rfl dX10_goes_4 rfl ?_
  refine k_aload_n C 6 0 rfl rfl dX10_goes_5 rfl ?_
  refine k_get C 9 flX10_9 91 (by decide) (v := .ref (ga g 92)) (ce_91 g _) rfl dX10_goes_6 rfl ?_
  refine k_iconst C 10 (v := 2) (by decide) dX10_goes_9 rfl ?_
  refine k_iald C 11 92 2 (by decide) (ce_92 g) (by decide) rfl (by omega) dX10_goes_10 rfl ?_
  refine k_teq (y := nI n) hn ?_
  refine k_icmp_ge C 38 14 dX10_goes_11 (by decide) rfl (fun c11 => ?_) (fun d11 => ?_)
  · skip
    have c11 := (nI_leI (by omega) (by omega)).mp (show nI n ≤ nI i from c11)
    refine k_iconst C 39 (v := 0) (by decide) dX10_goes_38 rfl ?_
    refine k_istore_n C 40 [(2, .int 0), (0, .ref (ga g 91)), (1, .int (nI (pHS (mF M) n i)))] rfl (by decide) rfl dX10_goes_39 rfl ?_
    refine k_sub [(0, .ref (ga g 91)), (1, .int (nI (pHS (mF M) n i))), (2, .int 0)] [1, 2, 0] rfl ?_
    refine k_all (M' := M) (lo' := [(0, .ref (ga g 91)), (1, .int (nI (pHS (mF M) n n))), (2, .int (nI 0))]) (st' := []) (by rfl) (by rw [show i = n by omega]; rfl) rfl ?_
    refine k_loop (σ := Nat × Mem) (fun (v : Nat × Mem) => match v with | (f, M1) => (f ≤ n) ∧ (∀ a, a ≠ 92 → M1 a = M a) ∧ (∀ k, k < n → ∀ j, j < 7 → mF M1 k j = if k < f then pYRm (mF M) n (M 92 3) k j else mF M k j) ∧ (∀ q, ¬ (6 ≤ q ∧ q < 6 + 7 * n) → M1 92 q = M 92 q)) (fun (v : Nat × Mem) => match v with | (f, M1) => n - f) (fun (v : Nat × Mem) => match v with | (f, M1) => M1) (fun (v : Nat × Mem) => match v with | (f, M1) => [(0, .ref (ga g 91)), (1, .int (nI (pHS (mF M) n n))), (2, .int (nI f))]) (0, M) (show (0 ≤ n) ∧ (∀ a, a ≠ 92 → M a = M a) ∧ (∀ k, k < n → ∀ j, j < 7 → mF M k j = if k < 0 then pYRm (mF M) n (M 92 3) k j else mF M k j) ∧ (∀ q, ¬ (6 ≤ q ∧ q < 6 + 7 * n) → M 92 q = M 92 q) from by exact ⟨Nat.zero_le _, fun _ _ => rfl, fun k _ j _ => by rw [if_neg (Nat.not_lt_zero _)], fun _ _ => rfl⟩) ?_
    rintro ⟨f, M1⟩ hI ih
    have hI : (f ≤ n) ∧ (∀ a, a ≠ 92 → M1 a = M a) ∧ (∀ k, k < n → ∀ j, j < 7 → mF M1 k j = if k < f then pYRm (mF M) n (M 92 3) k j else mF M k j) ∧ (∀ q, ¬ (6 ≤ q ∧ q < 6 + 7 * n) → M1 92 q = M 92 q) := hI
    obtain ⟨hf, hA, hB, hQ⟩ := hI
    show KW pP l eE RR sS mI aG bB mE cD g 3 _ (M1) 40 [(0, .ref (ga g 91)), (1, .int (nI (pHS (mF M) n n))), (2, .int (nI f))] []
    refine k_iload_n C 41 2 rfl rfl dX10_goes_40 rfl ?_
    refine k_aload_n C 42 0 rfl rfl dX10_goes_41 rfl ?_
    refine k_get C 45 flX10_9 91 (by decide) (v := .ref (ga g 92)) (ce_91 g _) rfl dX10_goes_42 rfl ?_
    refine k_iconst C 46 (v := 2) (by decide) dX10_goes_45 rfl ?_
    refine k_iald C 47 92 2 (by decide) (ce_92 g) (by decide) rfl (by omega) dX10_goes_46 rfl ?_
    refine k_teq (y := nI n) (by rw [hQ 2 (by omega)]; exact hn) ?_
    refine k_icmp_ge C 119 50 dX10_goes_47 (by decide) rfl (fun c47 => ?_) (fun d47 => ?_)
    · skip
      have c47 := (nI_leI (by omega) (by omega)).mp (show nI n ≤ nI f from c47)
      refine k_aload_n C 120 0 rfl rfl dX10_goes_119 rfl ?_
      refine k_get C 123 flX10_9 91 (by decide) (v := .ref (ga g 92)) (ce_91 g _) rfl dX10_goes_120 rfl ?_
      refine k_iconst C 124 (v := 0) (by decide) dX10_goes_123 rfl ?_
      refine k_dup2 C 125 rfl rfl dX10_goes_124 rfl ?_
      refine k_iald C 126 92 0 (by decide) (ce_92 g) (by decide) rfl (by omega) dX10_goes_125 rfl ?_
      refine k_iconst C 127 (v := 1) (by decide) dX10_goes_126 rfl ?_
      refine k_iadd C 128 dX10_goes_127 rfl ?_
      refine k_iast C 129 92 0 (by decide) (ce_92 g) (by decide) rfl (by omega) dX10_goes_128 rfl ?_
      refine k_vret C dX10_goes_129 ?_
      refine ⟨fun k hk j hj => ?_, ?_, fun q hq h0 => ?_, fun a ha => by rw [mu_n _ _ _ ha]; exact hA a ha⟩
      · rw [mF_mu, if_neg (by omega), hB k hk j hj, if_pos (by omega)]
      · rw [mu_s, hQ 0 (by omega)]
      · rw [mu_o _ _ _ h0]; exact hQ q hq
    · skip
      have d47 := mt (nI_leI (by omega) (by omega)).mpr (show ¬ (nI n ≤ nI f) from d47)
      refine k_aload_n C 51 0 rfl rfl dX10_goes_50 rfl ?_
      refine k_iload_n C 52 2 rfl rfl dX10_goes_51 rfl ?_
      refine k_callVE C 55 (As := [.int (nI f)]) (st := []) 91 (by decide) (ce_91 g _) rfl rfl mwX10_62 vlX10_isSeen (qX10_isSeen l g M1 (f := f) (by omega)) mlX10_isSeen (by decide) (by decide) rfl rfl (Nat.le_of_ble_eq_true rfl) dX10_goes_52 rfl ?_
      refine k_if_eqB C 113 58 dX10_goes_55 (by decide) rfl (fun c55 => ?_) (fun d55 => ?_)
      · skip
        refine k_iinc C 116 (nI (f + 1)) 2 [(2, .int (nI (f + 1))), (0, .ref (ga g 91)), (1, .int (nI (pHS (mF M) n n)))] rfl (iinc_p f) (by decide) rfl dX10_goes_113 rfl ?_
        refine k_goto C 40 dX10_goes_116 (by decide) ?_
        refine k_sub [(0, .ref (ga g 91)), (1, .int (nI (pHS (mF M) n n))), (2, .int (nI (f + 1)))] [1, 2, 0] rfl ?_
        refine k_all (M' := M1) (lo' := [(0, .ref (ga g 91)), (1, .int (nI (pHS (mF M) n n))), (2, .int (nI (f + 1)))]) (st' := []) (by rfl) (by rfl) rfl ?_
        exact ih (f + 1, M1) (show ((f + 1) ≤ n) ∧ (∀ a, a ≠ 92 → M1 a = M a) ∧ (∀ k, k < n → ∀ j, j < 7 → mF M1 k j = if k < (f + 1) then pYRm (mF M) n (M 92 3) k j else mF M k j) ∧ (∀ q, ¬ (6 ≤ q ∧ q < 6 + 7 * n) → M1 92 q = M 92 q) from by exact ⟨by omega, hA, fun k hk j hj => by
                rw [hB k hk j hj]
                by_cases e : k = f
                · subst e; rw [if_neg (by omega), if_pos (by omega)]; unfold pYRm; rw [if_neg (fun q => absurd q.2.1 (by have h := of_decide_eq_false c55; rw [hB _ (by omega) 6 (by decide), if_neg (by omega)] at h; exact h))]
                · by_cases h : k < f
                  · rw [if_pos h, if_pos (by omega)]
                  · rw [if_neg h, if_neg (by omega)], hQ⟩) (by show n - (f + 1) < n - f; omega)
      · skip
        have hb62 := shr12 f (by omega) (pHS (mF M) n n) (Nat.lt_of_lt_of_le (pHS_lt (mF M) n n) (Nat.pow_le_pow_right (by decide) h12))
        have hbit := pHS_bit (mF M) n n f (by omega)
        have h6 : mF M f 6 = 0 := by have h := of_decide_eq_true d55; rw [hB f (by omega) 6 (by decide), if_neg (by omega)] at h; exact h
        refine k_iload_n C 59 1 rfl rfl dX10_goes_58 rfl ?_
        refine k_iload_n C 60 2 rfl rfl dX10_goes_59 rfl ?_
        refine k_ishr C 61 dX10_goes_60 rfl ?_
        refine k_iconst C 62 (v := 1) (by decide) dX10_goes_61 rfl ?_
        refine k_iand C 63 dX10_goes_62 rfl ?_
        refine k_if_ne C 113 66 dX10_goes_63 (by decide) rfl (fun c63 => ?_) (fun d63 => ?_)
        · skip
          refine k_iinc C 116 (nI (f + 1)) 2 [(2, .int (nI (f + 1))), (0, .ref (ga g 91)), (1, .int (nI (pHS (mF M) n n)))] rfl (iinc_p f) (by decide) rfl dX10_goes_113 rfl ?_
          refine k_goto C 40 dX10_goes_116 (by decide) ?_
          refine k_sub [(0, .ref (ga g 91)), (1, .int (nI (pHS (mF M) n n))), (2, .int (nI (f + 1)))] [1, 2, 0] rfl ?_
          refine k_all (M' := M1) (lo' := [(0, .ref (ga g 91)), (1, .int (nI (pHS (mF M) n n))), (2, .int (nI (f + 1)))]) (st' := []) (by rfl) (by rfl) rfl ?_
          exact ih (f + 1, M1) (show ((f + 1) ≤ n) ∧ (∀ a, a ≠ 92 → M1 a = M a) ∧ (∀ k, k < n → ∀ j, j < 7 → mF M1 k j = if k < (f + 1) then pYRm (mF M) n (M 92 3) k j else mF M k j) ∧ (∀ q, ¬ (6 ≤ q ∧ q < 6 + 7 * n) → M1 92 q = M 92 q) from by exact ⟨by omega, hA, fun k hk j hj => by
                  rw [hB k hk j hj]
                  by_cases e : k = f
                  · subst e; rw [if_neg (by omega), if_pos (by omega)]; unfold pYRm; rw [if_neg (fun q => c63 (by rw [hb62, hbit, q.2.2]; rfl))]
                  · by_cases h : k < f
                    · rw [if_pos h, if_pos (by omega)]
                    · rw [if_neg h, if_neg (by omega)], hQ⟩) (by show n - (f + 1) < n - f; omega)
        · skip
          refine k_aload_n C 67 0 rfl rfl dX10_goes_66 rfl ?_
          refine k_iload_n C 68 2 rfl rfl dX10_goes_67 rfl ?_
          refine k_iconst C 69 (v := 5) (by decide) dX10_goes_68 rfl ?_
          refine k_aload_n C 70 0 rfl rfl dX10_goes_69 rfl ?_
          refine k_iload_n C 71 2 rfl rfl dX10_goes_70 rfl ?_
          refine k_iconst C 72 (v := 5) (by decide) dX10_goes_71 rfl ?_
          refine k_callVE C 75 (As := [.int (nI f), .int 5]) (st := [.int 5, .int (nI f), .ref (ga g 91)]) 91 (by decide) (ce_91 g _) rfl rfl mwX10_58 vlX10_of (qX10_of l g M1 (f := f) (w := 5) (by omega) (by omega)) mlX10_of (by decide) (by decide) rfl rfl (Nat.le_of_ble_eq_true rfl) dX10_goes_72 rfl ?_
          refine k_iconst C 76 (v := 1) (by decide) dX10_goes_75 rfl ?_
          refine k_iadd C 77 dX10_goes_76 rfl ?_
          refine k_iconst C 78 (v := 0) (by decide) dX10_goes_77 rfl ?_
          refine k_bipush C 80 (v := 99) (by decide) dX10_goes_78 rfl ?_
          refine k_callSE C 83 (As := [.int ((mF M1 f 5) + 1), .int 0, .int 99]) (st := [.int 5, .int (nI f), .ref (ga g 91)]) mwX10_177 skX10_held (qX10_held l g M1 ((mF M1 f 5) + 1) 0 99) mlX10_held (by decide) (by decide) rfl rfl (Nat.le_of_ble_eq_true rfl) dX10_goes_80 rfl ?_
          refine k_callVU C 86 (As := [.int (nI f), .int 5, .int (pHold ((mF M1 f 5) + 1) 0 99)]) (st := []) 91 (by decide) (ce_91 g _) rfl rfl mwX10_84 vlX10_lets (qX10_lets l g M1 (f := f) (w := 5) (by omega) (by omega) (pHold ((mF M1 f 5) + 1) 0 99)) mlX10_lets (by decide) (by decide) rfl rfl (Nat.le_of_ble_eq_true rfl) dX10_goes_83 rfl ?_
          refine k_aload_n C 87 0 rfl rfl dX10_goes_86 rfl ?_
          refine k_iload_n C 88 2 rfl rfl dX10_goes_87 rfl ?_
          refine k_bipush C 90 (v := 6) (by decide) dX10_goes_88 rfl ?_
          refine k_aload_n C 91 0 rfl rfl dX10_goes_90 rfl ?_
          refine k_iload_n C 92 2 rfl rfl dX10_goes_91 rfl ?_
          refine k_iconst C 93 (v := 5) (by decide) dX10_goes_92 rfl ?_
          refine k_callVE C 96 (As := [.int (nI f), .int 5]) (st := [.int 6, .int (nI f), .ref (ga g 91)]) 91 (by decide) (ce_91 g _) rfl rfl mwX10_58 vlX10_of (qX10_of l g (mu M1 92 (6 + 7 * f + 5) (pHold ((mF M1 f 5) + 1) 0 99)) (f := f) (w := 5) (by omega) (by omega)) mlX10_of (by decide) (by decide) rfl rfl (Nat.le_of_ble_eq_true rfl) dX10_goes_93 rfl ?_
          refine k_teq (show mF (mu M1 92 (6 + 7 * f + 5) (pHold ((mF M1 f 5) + 1) 0 99)) f 5 = pHold ((mF M1 f 5) + 1) 0 99 by simp [mF, mu_at]) ?_
          refine k_aload_n C 97 0 rfl rfl dX10_goes_96 rfl ?_
          refine k_get C 100 flX10_9 91 (by decide) (v := .ref (ga g 92)) (ce_91 g _) rfl dX10_goes_97 rfl ?_
          refine k_iconst C 101 (v := 3) (by decide) dX10_goes_100 rfl ?_
          refine k_iald C 102 92 3 (by decide) (ce_92 g) (by decide) rfl (by omega) dX10_goes_101 rfl ?_
          refine k_teq (y := M 92 3) (by rw [mu_o _ _ _ (by omega)]; exact hQ 3 (by omega)) ?_
          refine k_icmp_lt C 109 105 dX10_goes_102 (by decide) rfl (fun c102 => ?_) (fun d102 => ?_)
          · skip
            refine k_iconst C 110 (v := 0) (by decide) dX10_goes_109 rfl ?_
            refine k_callVU C 113 (As := [.int (nI f), .int 6, .int 0]) (st := []) 91 (by decide) (ce_91 g _) rfl rfl mwX10_84 vlX10_lets (qX10_lets l g (mu M1 92 (6 + 7 * f + 5) (pHold ((mF M1 f 5) + 1) 0 99)) (f := f) (w := 6) (by omega) (by omega) 0) mlX10_lets (by decide) (by decide) rfl rfl (Nat.le_of_ble_eq_true rfl) dX10_goes_110 rfl ?_
            refine k_iinc C 116 (nI (f + 1)) 2 [(2, .int (nI (f + 1))), (0, .ref (ga g 91)), (1, .int (nI (pHS (mF M) n n)))] rfl (iinc_p f) (by decide) rfl dX10_goes_113 rfl ?_
            refine k_goto C 40 dX10_goes_116 (by decide) ?_
            refine k_sub [(0, .ref (ga g 91)), (1, .int (nI (pHS (mF M) n n))), (2, .int (nI (f + 1)))] [1, 2, 0] rfl ?_
            refine k_all (M' := (mu (mu M1 92 (6 + 7 * f + 5) (pHold ((mF M1 f 5) + 1) 0 99)) 92 (6 + 7 * f + 6) 0)) (lo' := [(0, .ref (ga g 91)), (1, .int (nI (pHS (mF M) n n))), (2, .int (nI (f + 1)))]) (st' := []) (by rfl) (by rfl) rfl ?_
            exact ih (f + 1, mu (mu M1 92 (6 + 7 * f + 5) (pHold ((mF M1 f 5) + 1) 0 99)) 92 (6 + 7 * f + 6) 0) (show ((f + 1) ≤ n) ∧ (∀ a, a ≠ 92 → (mu (mu M1 92 (6 + 7 * f + 5) (pHold ((mF M1 f 5) + 1) 0 99)) 92 (6 + 7 * f + 6) 0) a = M a) ∧ (∀ k, k < n → ∀ j, j < 7 → mF (mu (mu M1 92 (6 + 7 * f + 5) (pHold ((mF M1 f 5) + 1) 0 99)) 92 (6 + 7 * f + 6) 0) k j = if k < (f + 1) then pYRm (mF M) n (M 92 3) k j else mF M k j) ∧ (∀ q, ¬ (6 ≤ q ∧ q < 6 + 7 * n) → (mu (mu M1 92 (6 + 7 * f + 5) (pHold ((mF M1 f 5) + 1) 0 99)) 92 (6 + 7 * f + 6) 0) 92 q = M 92 q) from by exact ⟨by omega, fun a ha => by rw [mu_n _ _ _ ha, mu_n _ _ _ ha]; exact hA a ha, fun k hk j hj => by
                    rw [mF_mu, mF_mu]
                    by_cases e : k = f
                    · subst e
                      rw [if_pos (show k < k + 1 by omega)]
                      have hnh : pHeard (mF M) n k = false := by
                        cases hq : pHeard (mF M) n k with
                        | false => rfl
                        | true => rw [hq] at hbit; rw [hb62, hbit] at d63; exact absurd d63 (by decide)
                      have hrr : pYRm (mF M) n (M 92 3) k = pUnhM (M 92 3) (mF M k) := if_pos ⟨hk, h6, hnh⟩
                      have h5 : mF M1 k 5 = mF M k 5 := by rw [hB k hk 5 (by decide), if_neg (by omega)]
                      rw [hrr]
                      by_cases j6 : j = 6
                      · subst j6; rw [if_pos rfl]; unfold pUnhM upd; rw [if_pos rfl]; rw [h5] at c102; rw [if_neg (Int32.not_le.mpr c102)]
                      · rw [if_neg (by omega)]
                        by_cases j5 : j = 5
                        · subst j5; rw [if_pos rfl, h5]; unfold pUnhM upd; rw [if_neg (by decide), if_pos rfl]
                        · rw [if_neg (by omega), hB k hk j hj, if_neg (by omega)]; unfold pUnhM upd; rw [if_neg j6, if_neg j5]
                    · rw [if_neg (by omega), if_neg (by omega), hB k hk j hj]
                      by_cases h : k < f
                      · rw [if_pos h, if_pos (by omega)]
                      · rw [if_neg h, if_neg (by omega)], fun q hq => by rw [mu_o _ _ _ (by omega), mu_o _ _ _ (by omega)]; exact hQ q hq⟩) (by show n - (f + 1) < n - f; omega)
          · skip
            refine k_iconst C 106 (v := 1) (by decide) dX10_goes_105 rfl ?_
            refine k_goto C 110 dX10_goes_106 (by decide) ?_
            refine k_callVU C 113 (As := [.int (nI f), .int 6, .int 1]) (st := []) 91 (by decide) (ce_91 g _) rfl rfl mwX10_84 vlX10_lets (qX10_lets l g (mu M1 92 (6 + 7 * f + 5) (pHold ((mF M1 f 5) + 1) 0 99)) (f := f) (w := 6) (by omega) (by omega) 1) mlX10_lets (by decide) (by decide) rfl rfl (Nat.le_of_ble_eq_true rfl) dX10_goes_110 rfl ?_
            refine k_iinc C 116 (nI (f + 1)) 2 [(2, .int (nI (f + 1))), (0, .ref (ga g 91)), (1, .int (nI (pHS (mF M) n n)))] rfl (iinc_p f) (by decide) rfl dX10_goes_113 rfl ?_
            refine k_goto C 40 dX10_goes_116 (by decide) ?_
            refine k_sub [(0, .ref (ga g 91)), (1, .int (nI (pHS (mF M) n n))), (2, .int (nI (f + 1)))] [1, 2, 0] rfl ?_
            refine k_all (M' := (mu (mu M1 92 (6 + 7 * f + 5) (pHold ((mF M1 f 5) + 1) 0 99)) 92 (6 + 7 * f + 6) 1)) (lo' := [(0, .ref (ga g 91)), (1, .int (nI (pHS (mF M) n n))), (2, .int (nI (f + 1)))]) (st' := []) (by rfl) (by rfl) rfl ?_
            exact ih (f + 1, mu (mu M1 92 (6 + 7 * f + 5) (pHold ((mF M1 f 5) + 1) 0 99)) 92 (6 + 7 * f + 6) 1) (show ((f + 1) ≤ n) ∧ (∀ a, a ≠ 92 → (mu (mu M1 92 (6 + 7 * f + 5) (pHold ((mF M1 f 5) + 1) 0 99)) 92 (6 + 7 * f + 6) 1) a = M a) ∧ (∀ k, k < n → ∀ j, j < 7 → mF (mu (mu M1 92 (6 + 7 * f + 5) (pHold ((mF M1 f 5) + 1) 0 99)) 92 (6 + 7 * f + 6) 1) k j = if k < (f + 1) then pYRm (mF M) n (M 92 3) k j else mF M k j) ∧ (∀ q, ¬ (6 ≤ q ∧ q < 6 + 7 * n) → (mu (mu M1 92 (6 + 7 * f + 5) (pHold ((mF M1 f 5) + 1) 0 99)) 92 (6 + 7 * f + 6) 1) 92 q = M 92 q) from by exact ⟨by omega, fun a ha => by rw [mu_n _ _ _ ha, mu_n _ _ _ ha]; exact hA a ha, fun k hk j hj => by
                    rw [mF_mu, mF_mu]
                    by_cases e : k = f
                    · subst e
                      rw [if_pos (show k < k + 1 by omega)]
                      have hnh : pHeard (mF M) n k = false := by
                        cases hq : pHeard (mF M) n k with
                        | false => rfl
                        | true => rw [hq] at hbit; rw [hb62, hbit] at d63; exact absurd d63 (by decide)
                      have hrr : pYRm (mF M) n (M 92 3) k = pUnhM (M 92 3) (mF M k) := if_pos ⟨hk, h6, hnh⟩
                      have h5 : mF M1 k 5 = mF M k 5 := by rw [hB k hk 5 (by decide), if_neg (by omega)]
                      rw [hrr]
                      by_cases j6 : j = 6
                      · subst j6; rw [if_pos rfl]; unfold pUnhM upd; rw [if_pos rfl]; rw [h5] at d102; rw [if_pos (Int32.not_lt.mp d102)]
                      · rw [if_neg (by omega)]
                        by_cases j5 : j = 5
                        · subst j5; rw [if_pos rfl, h5]; unfold pUnhM upd; rw [if_neg (by decide), if_pos rfl]
                        · rw [if_neg (by omega), hB k hk j hj, if_neg (by omega)]; unfold pUnhM upd; rw [if_neg j6, if_neg j5]
                    · rw [if_neg (by omega), if_neg (by omega), hB k hk j hj]
                      by_cases h : k < f
                      · rw [if_pos h, if_pos (by omega)]
                      · rw [if_neg h, if_neg (by omega)], fun q hq => by rw [mu_o _ _ _ (by omega), mu_o _ _ _ (by omega)]; exact hQ q hq⟩) (by show n - (f + 1) < n - f; omega)
  · skip
    have d11 := mt (nI_leI (by omega) (by omega)).mpr (show ¬ (nI n ≤ nI i) from d11)
    refine k_iload_n C 15 1 rfl rfl dX10_goes_14 rfl ?_
    refine k_aload_n C 16 0 rfl rfl dX10_goes_15 rfl ?_
    refine k_iload_n C 17 2 rfl rfl dX10_goes_16 rfl ?_
    refine k_callVE C 20 (As := [.int (nI i)]) (st := [.int (nI (pHS (mF M) n i))]) 91 (by decide) (ce_91 g _) rfl rfl mwX10_108 vlX10_isHeard (qX10_isHeard l g M (n := n) hn h12 (f := i) (by omega)) mlX10_isHeard (by decide) (by decide) rfl rfl (Nat.le_of_ble_eq_true rfl) dX10_goes_17 rfl ?_
    refine k_if_eqB C 29 23 dX10_goes_20 (by decide) rfl (fun c20 => ?_) (fun d20 => ?_)
    · skip
      refine k_iconst C 30 (v := 0) (by decide) dX10_goes_29 rfl ?_
      refine k_ior C 31 dX10_goes_30 rfl ?_
      refine k_istore_n C 32 [(1, .int ((nI (pHS (mF M) n i)) ||| 0)), (0, .ref (ga g 91)), (2, .int (nI i))] rfl (by decide) rfl dX10_goes_31 rfl ?_
      refine k_iinc C 35 (nI (i + 1)) 2 [(2, .int (nI (i + 1))), (1, .int ((nI (pHS (mF M) n i)) ||| 0)), (0, .ref (ga g 91))] rfl (iinc_p i) (by decide) rfl dX10_goes_32 rfl ?_
      refine k_goto C 4 dX10_goes_35 (by decide) ?_
      refine k_sub [(0, .ref (ga g 91)), (1, .int ((nI (pHS (mF M) n i)) ||| 0)), (2, .int (nI (i + 1)))] [2, 1, 0] rfl ?_
      refine k_all (M' := M) (lo' := [(0, .ref (ga g 91)), (1, .int (nI (pHS (mF M) n (i + 1)))), (2, .int (nI (i + 1)))]) (st' := []) (by rfl) (by rw [show pHS (mF M) n (i + 1) = pHS (mF M) n i by simp [pHS, c20], i_or0]) rfl ?_
      exact ih (i + 1) (show ((i + 1) ≤ n) from by omega) (by show n - (i + 1) < _; omega)
    · skip
      refine k_iconst C 24 (v := 1) (by decide) dX10_goes_23 rfl ?_
      refine k_iload_n C 25 2 rfl rfl dX10_goes_24 rfl ?_
      refine k_ishl C 26 dX10_goes_25 rfl ?_
      refine k_goto C 30 dX10_goes_26 (by decide) ?_
      refine k_ior C 31 dX10_goes_30 rfl ?_
      refine k_istore_n C 32 [(1, .int ((nI (pHS (mF M) n i)) ||| (1 <<< ((nI i) &&& 31)))), (0, .ref (ga g 91)), (2, .int (nI i))] rfl (by decide) rfl dX10_goes_31 rfl ?_
      refine k_iinc C 35 (nI (i + 1)) 2 [(2, .int (nI (i + 1))), (1, .int ((nI (pHS (mF M) n i)) ||| (1 <<< ((nI i) &&& 31)))), (0, .ref (ga g 91))] rfl (iinc_p i) (by decide) rfl dX10_goes_32 rfl ?_
      refine k_goto C 4 dX10_goes_35 (by decide) ?_
      refine k_sub [(0, .ref (ga g 91)), (1, .int ((nI (pHS (mF M) n i)) ||| (1 <<< ((nI i) &&& 31)))), (2, .int (nI (i + 1)))] [2, 1, 0] rfl ?_
      refine k_all (M' := M) (lo' := [(0, .ref (ga g 91)), (1, .int (nI (pHS (mF M) n (i + 1)))), (2, .int (nI (i + 1)))]) (st' := []) (by rfl) (by rw [show pHS (mF M) n (i + 1) = pHS (mF M) n i + 2 ^ i by simp [pHS, d20], ← or_bit i (by omega) _ (pHS_lt _ _ _)]) rfl ?_
      exact ih (i + 1) (show ((i + 1) ≤ n) from by omega) (by show n - (i + 1) < _; omega)
set_option maxHeartbeats 4000000 in
set_option maxRecDepth 20000 in
theorem qX10_draw (l : Launch) (g : GT) (M : Mem) : CtrE l g yX10_draw cX10_draw 1 (some .int) 0 [.ref (ga g 91)] M (pUs (pNd (M 92 1))) (mu M 92 1 (pNd (M 92 1))) := by
  refine ctrI_of (by decide +kernel) (Nat.le_of_ble_eq_true rfl) ?_
  intro pP eE RR sS mI aG bB mE cD C
  refine k_lo (lo' := [(0, .ref (ga g 91))]) rfl ?_
  refine k_aload_n C 1 0 rfl rfl dX10_draw_0 rfl ?_
  refine k_get C 4 flX10_9 91 (by decide) (v := .ref (ga g 92)) (ce_91 g _) rfl dX10_draw_1 rfl ?_
  refine k_iconst C 5 (v := 1) (by decide) dX10_draw_4 rfl ?_
  refine k_aload_n C 6 0 rfl rfl dX10_draw_5 rfl ?_
  refine k_get C 9 flX10_9 91 (by decide) (v := .ref (ga g 92)) (ce_91 g _) rfl dX10_draw_6 rfl ?_
  refine k_iconst C 10 (v := 1) (by decide) dX10_draw_9 rfl ?_
  refine k_iald C 11 92 1 (by decide) (ce_92 g) (by decide) rfl (by omega) dX10_draw_10 rfl ?_
  refine k_ldc C 13 cwX10_190 dX10_draw_11 rfl ?_
  refine k_imul C 14 dX10_draw_13 rfl ?_
  refine k_sipush C 17 (v := 12345) (by decide) dX10_draw_14 rfl ?_
  refine k_iadd C 18 dX10_draw_17 rfl ?_
  refine k_iast C 19 92 1 (by decide) (ce_92 g) (by decide) rfl (by omega) dX10_draw_18 rfl ?_
  refine k_aload_n C 20 0 rfl rfl dX10_draw_19 rfl ?_
  refine k_get C 23 flX10_9 91 (by decide) (v := .ref (ga g 92)) (ce_91 g _) rfl dX10_draw_20 rfl ?_
  refine k_iconst C 24 (v := 1) (by decide) dX10_draw_23 rfl ?_
  refine k_iald C 25 92 1 (by decide) (ce_92 g) (by decide) rfl (by omega) dX10_draw_24 rfl ?_
  refine k_teq (show (mu M 92 1 (((M 92 1) * 1103515245) + 12345)) 92 1 = ((M 92 1) * 1103515245) + 12345 by simp [mu_at]) ?_
  refine k_bipush C 27 (v := 8) (by decide) dX10_draw_25 rfl ?_
  refine k_iushr C 28 dX10_draw_27 rfl ?_
  refine k_ret C rfl dX10_draw_28 ?_
  exact ⟨rfl, rfl⟩
