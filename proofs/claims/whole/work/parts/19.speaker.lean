-- voices: pure words, and the class's Speaker
def pSays (k fr x : Int32) : Int32 := if fr = 1 then x + k - 4 else if fr = 4 then (x + k - 4) * 3 else if fr = 6 then 9 else x + k
def bSays (fr : Int32) : List Int32 := if fr = 1 then [20, 10] else if fr = 4 then [50, 20, 10] else if fr = 6 then [70] else [10]
def pAsks0 (kd k x : Int32) : Int32 := pSays k kd x * 2
def bAsks0 (kd : Int32) : List Int32 := 11 :: bSays kd
def pAsks (fr kd k m x : Int32) : Int32 := if fr = 2 then 0 - pAsks0 kd k x else if fr = 5 then 0 - pAsks0 kd k (x + 1) else if fr = 6 then pAsks0 kd k x + m else pAsks0 kd k x
def bAsks (fr kd : Int32) : List Int32 := if fr = 2 then 30 :: bAsks0 kd else if fr = 5 then 60 :: 30 :: bAsks0 kd else if fr = 6 then 71 :: bAsks0 kd else bAsks0 kd
def pHums0 (kd k m x : Int32) : Int32 := pAsks kd kd k m x - m
def bHums0 (kd : Int32) : List Int32 := 12 :: bAsks kd kd
def pHums (fr kd k m x : Int32) : Int32 := if fr = 3 then pHums0 kd k m (x / 2) else if fr = 4 then pHums0 kd k m x ^^^ k else pHums0 kd k m x
def bHums (fr kd : Int32) : List Int32 := if fr = 3 then 40 :: bHums0 kd else if fr = 4 then 51 :: bHums0 kd else bHums0 kd
def pParts0 (k m x : Int32) : Int32 := if m = k then 0 else x / (m - k)
def pParts (fr kd k m x : Int32) : Int32 := if fr = 1 ∨ fr = 4 then (if m = k then 0 else pParts0 k m x + pAsks kd kd k m 1) else pParts0 k m x
def bParts (fr kd k m : Int32) : List Int32 := if fr = 1 ∨ fr = 4 then (if m = k then [21, 13] else 21 :: 13 :: bAsks kd kd) else [13]
def pVoice (v kd k m x : Int32) : Int32 := if v = 0 then pSays k kd x else if v = 1 then pAsks kd kd k m x else if v = 2 then pHums kd kd k m x else pParts kd kd k m x
def bVoice (v kd k m : Int32) : List Int32 := if v = 0 then bSays kd else if v = 1 then bAsks kd kd else if v = 2 then bHums kd kd else bParts kd kd k m
/-- it parts, and by 0 -/
def pOff (v k m : Int32) : Bool := !decide (v = 0) && !decide (v = 1) && !decide (v = 2) && decide (m = k)
/-- the trace as it grows: how many, and which -/
def bg (t : Nat × (Nat → Int32)) (b : Int32) : Nat × (Nat → Int32) := if t.1 < 30 then (t.1 + 1, upd t.2 t.1 b) else t
def bgs (t : Nat × (Nat → Int32)) (L : List Int32) : Nat × (Nat → Int32) := L.foldl bg t
theorem bgs_le (L : List Int32) : ∀ t : Nat × (Nat → Int32), t.1 ≤ 30 → (bgs t L).1 ≤ 30 := by
  induction L with
  | nil => intro t h; exact h
  | cons b L ih =>
    intro t h
    exact ih (bg t b) (by unfold bg; split <;> (try simp only) <;> omega)
theorem bgs_app (t : Nat × (Nat → Int32)) (L L2 : List Int32) : bgs (bgs t L) L2 = bgs t (L ++ L2) := by simp [bgs, List.foldl_append]
/-- the class's memory with a trace -/
def trC (M : Mem) (t : Nat × (Nat → Int32)) : Mem := mrow (mu M 78 1 (nI t.1)) 79 t.2
theorem trC_1 (M : Mem) (t : Nat × (Nat → Int32)) : trC M t 78 1 = nI t.1 := by unfold trC; rw [mrow_n _ _ (by decide), mu_s]
theorem trC_o (M : Mem) (t : Nat × (Nat → Int32)) {j : Nat} (h : j ≠ 1) : trC M t 78 j = M 78 j := by unfold trC; rw [mrow_n _ _ (by decide), mu_o _ _ _ h]
theorem trC_bg (M : Mem) (t : Nat × (Nat → Int32)) (b : Int32) (h : t.1 < 30) : mu (mu (trC M t) 79 t.1 b) 78 1 (nI (t.1 + 1)) = trC M (bg t b) := by
  unfold bg; rw [if_pos h]
  funext a
  unfold trC
  by_cases h1 : a = 79
  · subst h1; rw [mu_n _ _ _ (by decide), mu_r, mrow_s, mrow_s]
  · by_cases h2 : a = 78
    · subst h2
      funext j
      rw [mrow_n _ _ h1]
      by_cases hj : j = 1
      · subst hj; rw [mu_s, mu_s]
      · rw [mu_o _ _ _ hj, mu_o _ _ _ hj, mu_n _ _ _ h1, mrow_n _ _ h1, mu_o _ _ _ hj]
    · rw [mu_n _ _ _ h2, mu_n _ _ _ h1, mrow_n _ _ h1, mrow_n _ _ h1, mu_n _ _ _ h2, mu_n _ _ _ h2]
theorem trC_p (M : Mem) (t : Nat × (Nat → Int32)) (x : Int32) : mu (trC M t) 78 2 x = trC (mu M 78 2 x) t := by
  funext a
  unfold trC
  by_cases h2 : a = 78
  · subst h2
    funext j
    rw [mrow_n _ _ (by decide)]
    by_cases hj : j = 1
    · subst hj; rw [mu_o _ _ _ (by decide), mrow_n _ _ (by decide), mu_s, mu_s]
    · rw [mu_o _ _ _ hj]
      by_cases hj2 : j = 2
      · subst hj2; rw [mu_s, mu_s]
      · rw [mu_o _ _ _ hj2, mrow_n _ _ (by decide), mu_o _ _ _ hj, mu_o _ _ _ hj2]
  · rw [mu_n _ _ _ h2]
    by_cases h1 : a = 79
    · subst h1; rw [mrow_s, mrow_s]
    · rw [mrow_n _ _ h1, mrow_n _ _ h1, mu_n _ _ _ h2, mu_n _ _ _ h2, mu_n _ _ _ h2]

theorem bg_le (t : Nat × (Nat → Int32)) (b : Int32) (h : t.1 ≤ 30) : (bg t b).1 ≤ 30 := by unfold bg; split <;> (try simp only) <;> omega
theorem Int32_sub_ne {a b : Int32} (h : ¬ a = b) : ¬ a - b = 0 := fun q => h (by have e := congrArg (fun z => z + b) q; simpa [Int32.sub_add_cancel] using e)
/-- the speaker as a voice begins -/
def spk (M : Mem) (k : Nat) (x4 : Int32) : Mem := mu (mu (mu (mu M 78 2 0) 78 3 (M k 0)) 78 4 x4) 78 5 (M k 1)
def spkP (M : Mem) (k : Nat) (x4 v : Int32) : Mem := if pOff v x4 (M k 1) then mu (spk M k x4) 78 2 1 else spk M k x4
theorem spk_2 (M : Mem) (k : Nat) (x4 : Int32) : spk M k x4 78 2 = 0 := by simp [spk, mu_at]
theorem spk_3 (M : Mem) (k : Nat) (x4 : Int32) : spk M k x4 78 3 = M k 0 := by simp [spk, mu_at]
theorem spk_4 (M : Mem) (k : Nat) (x4 : Int32) : spk M k x4 78 4 = x4 := by simp [spk, mu_at]
theorem spk_5 (M : Mem) (k : Nat) (x4 : Int32) : spk M k x4 78 5 = M k 1 := by simp [spk, mu_at]
theorem spk_tr (M : Mem) (k : Nat) (x4 : Int32) : mu (mu (mu (mu (mu M 78 2 0) 78 1 0) 78 3 (M k 0)) 78 4 x4) 78 5 (M k 1) = trC (spk M k x4) (0, M 79) := by
  funext a
  unfold trC spk
  by_cases h1 : a = 79
  · subst h1; rw [mrow_s]; simp only [mu_n _ _ _ (show (79 : Nat) ≠ 78 by decide)]
  · rw [mrow_n _ _ h1]
    by_cases h2 : a = 78
    · subst h2; funext j; simp only [mu_at, true_and]
      by_cases j1 : j = 1
      · subst j1; simp; rfl
      · simp [j1]
    · simp only [mu_n _ _ _ h2]
set_option maxHeartbeats 4000000 in
set_option maxRecDepth 20000 in
theorem qX6_begin (l : Launch) (g : GT) (M : Mem) (t : Nat × (Nat → Int32)) (ht : t.1 ≤ 30) (b : Int32) : CtrU l g yX6_begin cX6_begin 2 0 [.ref (ga g 78), .int b] (trC M t) (trC M (bg t b)) := by
  refine ctrV_of (by decide +kernel) (Nat.le_of_ble_eq_true rfl) ?_
  intro pP eE RR sS mI aG bB mE cD C
  refine k_lo (lo' := [(0, .ref (ga g 78)), (1, .int b)]) rfl ?_
  refine k_aload_n C 1 0 rfl rfl dX6_begin_0 rfl ?_
  refine k_get C 4 flX6_19 78 (by decide) (v := .int ((trC M t) 78 1)) (ce_78 g _) rfl dX6_begin_1 rfl ?_
  refine k_teq (y := nI t.1) (trC_1 M t) ?_
  refine k_bipush C 6 (v := 30) (by decide) dX6_begin_4 rfl ?_
  refine k_icmp_ge C 29 9 dX6_begin_6 (by decide) rfl (fun c6 => ?_) (fun d6 => ?_)
  · skip
    have c6 := (nI_leI (by omega) (by omega)).mp (show nI 30 ≤ nI t.1 from c6)
    refine k_vret C dX6_begin_29 ?_
    show _ = _
    unfold bg; rw [if_neg (by omega)]
  · skip
    have d6 := mt (nI_leI (by omega) (by omega)).mpr (show ¬ (nI 30 ≤ nI t.1) from d6)
    refine k_aload_n C 10 0 rfl rfl dX6_begin_9 rfl ?_
    refine k_get C 13 flX6_9 78 (by decide) (v := .ref (ga g 79)) (ce_78 g _) rfl dX6_begin_10 rfl ?_
    refine k_aload_n C 14 0 rfl rfl dX6_begin_13 rfl ?_
    refine k_get C 17 flX6_19 78 (by decide) (v := .int ((trC M t) 78 1)) (ce_78 g _) rfl dX6_begin_14 rfl ?_
    refine k_teq (y := nI t.1) (trC_1 M t) ?_
    refine k_iload_n C 18 1 rfl rfl dX6_begin_17 rfl ?_
    refine k_iast C 19 79 t.1 (by decide) (ce_79 g) (by decide) rfl (by omega) dX6_begin_18 rfl ?_
    refine k_aload_n C 20 0 rfl rfl dX6_begin_19 rfl ?_
    refine k_dup C 21 rfl dX6_begin_20 rfl ?_
    refine k_get C 24 flX6_19 78 (by decide) (v := .int ((mu (trC M t) 79 t.1 b) 78 1)) (ce_78 g _) rfl dX6_begin_21 rfl ?_
    refine k_teq (show (mu (trC M t) 79 t.1 b) 78 1 = (trC M t) 78 1 by simp [mu_at]) ?_
    refine k_teq (y := nI t.1) (trC_1 M t) ?_
    refine k_iconst C 25 (v := 1) (by decide) dX6_begin_24 rfl ?_
    refine k_iadd C 26 dX6_begin_25 rfl ?_
    refine k_teq (nI_add t.1 1) ?_
    refine k_put C 29 flX6_19 plX6 78 (by decide) (ce_78 g _) (ce_78 g _) (Nat.le_of_ble_eq_true rfl) rfl rfl rfl dX6_begin_26 rfl ?_
    refine k_vret C dX6_begin_29 ?_
    exact trC_bg M t b (by omega)
set_option maxHeartbeats 4000000 in
set_option maxRecDepth 20000 in
theorem qX6_says0 (l : Launch) (g : GT) (M : Mem) (t : Nat × (Nat → Int32)) (ht : t.1 ≤ 30) (x : Int32) : CtrE l g yX6_says cX6_says 3 (some .int) 1 [.ref (ga g 78), .int 0, .int x] (trC M t) (pSays (M 78 4) 0 x) (trC M (bgs t (bSays 0))) := by
  refine ctrI_of (by decide +kernel) (Nat.le_of_ble_eq_true rfl) ?_
  intro pP eE RR sS mI aG bB mE cD C
  refine k_lo (lo' := [(0, .ref (ga g 78)), (1, .int 0), (2, .int x)]) rfl ?_
  refine k_iload_n C 1 1 rfl rfl dX6_says_0 rfl ?_
  refine k_look C 75 (off := 74) (by decide) (by decide) dX6_says_1 (by decide) ?_
  refine k_aload_n C 76 0 rfl rfl dX6_says_75 rfl ?_
  refine k_bipush C 78 (v := 10) (by decide) dX6_says_76 rfl ?_
  refine k_callVU C 81 (As := [.int 10]) (st := []) 78 (by decide) (ce_78 g _) rfl rfl mwX6_49 vlX6_begin (qX6_begin l g M t ht 10) mlX6_begin (by decide) (by decide) rfl rfl (Nat.le_of_ble_eq_true rfl) dX6_says_78 rfl ?_
  refine k_iload_n C 82 2 rfl rfl dX6_says_81 rfl ?_
  refine k_aload_n C 83 0 rfl rfl dX6_says_82 rfl ?_
  refine k_get C 86 flX6_29 78 (by decide) (v := .int ((trC M (bg t 10)) 78 4)) (ce_78 g _) rfl dX6_says_83 rfl ?_
  refine k_teq (y := M 78 4) (trC_o _ _ (by decide)) ?_
  refine k_iadd C 87 dX6_says_86 rfl ?_
  refine k_ret C rfl dX6_says_87 ?_
  exact ⟨by simp [pSays, bSays], by simp [pSays, bSays, bgs]⟩
set_option maxHeartbeats 4000000 in
set_option maxRecDepth 20000 in
theorem qX6_says1 (l : Launch) (g : GT) (M : Mem) (t : Nat × (Nat → Int32)) (ht : t.1 ≤ 30) (x : Int32) : CtrE l g yX6_says cX6_says 3 (some .int) 2 [.ref (ga g 78), .int 1, .int x] (trC M t) (pSays (M 78 4) 1 x) (trC M (bgs t (bSays 1))) := by
  refine ctrI_of (by decide +kernel) (Nat.le_of_ble_eq_true rfl) ?_
  intro pP eE RR sS mI aG bB mE cD C
  refine k_lo (lo' := [(0, .ref (ga g 78)), (1, .int 1), (2, .int x)]) rfl ?_
  refine k_iload_n C 1 1 rfl rfl dX6_says_0 rfl ?_
  refine k_look C 36 (off := 35) (by decide) (by decide) dX6_says_1 (by decide) ?_
  refine k_aload_n C 37 0 rfl rfl dX6_says_36 rfl ?_
  refine k_bipush C 39 (v := 20) (by decide) dX6_says_37 rfl ?_
  refine k_callVU C 42 (As := [.int 20]) (st := []) 78 (by decide) (ce_78 g _) rfl rfl mwX6_49 vlX6_begin (qX6_begin l g M t ht 20) mlX6_begin (by decide) (by decide) rfl rfl (Nat.le_of_ble_eq_true rfl) dX6_says_39 rfl ?_
  refine k_aload_n C 43 0 rfl rfl dX6_says_42 rfl ?_
  refine k_iconst C 44 (v := 0) (by decide) dX6_says_43 rfl ?_
  refine k_iload_n C 45 2 rfl rfl dX6_says_44 rfl ?_
  refine k_callVE C 48 (As := [.int 0, .int x]) (st := []) 78 (by decide) (ce_78 g _) rfl rfl mwX6_36 vlX6_says (qX6_says0 l g M (bg t 20) (bg_le _ _ ht) x) mlX6_says (by decide) (by decide) rfl rfl (Nat.le_of_ble_eq_true rfl) dX6_says_45 rfl ?_
  refine k_iconst C 49 (v := 4) (by decide) dX6_says_48 rfl ?_
  refine k_isub C 50 dX6_says_49 rfl ?_
  refine k_ret C rfl dX6_says_50 ?_
  exact ⟨by simp [pSays, bSays], by simp [pSays, bSays, bgs]⟩
set_option maxHeartbeats 4000000 in
set_option maxRecDepth 20000 in
theorem qX6_says (l : Launch) (g : GT) (M : Mem) (t : Nat × (Nat → Int32)) (ht : t.1 ≤ 30) (fr : Int32) (x : Int32) : CtrE l g yX6_says cX6_says 3 (some .int) 3 [.ref (ga g 78), .int fr, .int x] (trC M t) (pSays (M 78 4) fr x) (trC M (bgs t (bSays fr))) := by
  refine ctrI_of (by decide +kernel) (Nat.le_of_ble_eq_true rfl) ?_
  intro pP eE RR sS mI aG bB mE cD C
  refine k_lo (lo' := [(0, .ref (ga g 78)), (1, .int fr), (2, .int x)]) rfl ?_
  refine k_iload_n C 1 1 rfl rfl dX6_says_0 rfl ?_
  by_cases w1_1 : fr = 1
  · skip
    refine k_look C 36 (by decide) (by rw [w1_1]) dX6_says_1 (by decide) ?_
    refine k_aload_n C 37 0 rfl rfl dX6_says_36 rfl ?_
    refine k_bipush C 39 (v := 20) (by decide) dX6_says_37 rfl ?_
    refine k_callVU C 42 (As := [.int 20]) (st := []) 78 (by decide) (ce_78 g _) rfl rfl mwX6_49 vlX6_begin (qX6_begin l g M t ht 20) mlX6_begin (by decide) (by decide) rfl rfl (Nat.le_of_ble_eq_true rfl) dX6_says_39 rfl ?_
    refine k_aload_n C 43 0 rfl rfl dX6_says_42 rfl ?_
    refine k_iconst C 44 (v := 0) (by decide) dX6_says_43 rfl ?_
    refine k_iload_n C 45 2 rfl rfl dX6_says_44 rfl ?_
    refine k_callVE C 48 (As := [.int 0, .int x]) (st := []) 78 (by decide) (ce_78 g _) rfl rfl mwX6_36 vlX6_says (qX6_says0 l g M (bg t 20) (bg_le _ _ ht) x) mlX6_says (by decide) (by decide) rfl rfl (Nat.le_of_ble_eq_true rfl) dX6_says_45 rfl ?_
    refine k_iconst C 49 (v := 4) (by decide) dX6_says_48 rfl ?_
    refine k_isub C 50 dX6_says_49 rfl ?_
    refine k_ret C rfl dX6_says_50 ?_
    exact ⟨by simp [pSays, bSays, w1_1], by simp [pSays, bSays, bgs, w1_1]⟩
  · skip
    by_cases w1_4 : fr = 4
    · skip
      refine k_look C 51 (by decide) (by rw [w1_4]) dX6_says_1 (by decide) ?_
      refine k_aload_n C 52 0 rfl rfl dX6_says_51 rfl ?_
      refine k_bipush C 54 (v := 50) (by decide) dX6_says_52 rfl ?_
      refine k_callVU C 57 (As := [.int 50]) (st := []) 78 (by decide) (ce_78 g _) rfl rfl mwX6_49 vlX6_begin (qX6_begin l g M t ht 50) mlX6_begin (by decide) (by decide) rfl rfl (Nat.le_of_ble_eq_true rfl) dX6_says_54 rfl ?_
      refine k_aload_n C 58 0 rfl rfl dX6_says_57 rfl ?_
      refine k_iconst C 59 (v := 1) (by decide) dX6_says_58 rfl ?_
      refine k_iload_n C 60 2 rfl rfl dX6_says_59 rfl ?_
      refine k_callVE C 63 (As := [.int 1, .int x]) (st := []) 78 (by decide) (ce_78 g _) rfl rfl mwX6_36 vlX6_says (qX6_says1 l g M (bg t 50) (bg_le _ _ ht) x) mlX6_says (by decide) (by decide) rfl rfl (Nat.le_of_ble_eq_true rfl) dX6_says_60 rfl ?_
      refine k_iconst C 64 (v := 3) (by decide) dX6_says_63 rfl ?_
      refine k_imul C 65 dX6_says_64 rfl ?_
      refine k_ret C rfl dX6_says_65 ?_
      exact ⟨by simp [pSays, bSays, w1_4], by simp [pSays, bSays, bgs, w1_4]⟩
    · skip
      by_cases w1_6 : fr = 6
      · skip
        refine k_look C 66 (by decide) (by rw [w1_6]) dX6_says_1 (by decide) ?_
        refine k_aload_n C 67 0 rfl rfl dX6_says_66 rfl ?_
        refine k_bipush C 69 (v := 70) (by decide) dX6_says_67 rfl ?_
        refine k_callVU C 72 (As := [.int 70]) (st := []) 78 (by decide) (ce_78 g _) rfl rfl mwX6_49 vlX6_begin (qX6_begin l g M t ht 70) mlX6_begin (by decide) (by decide) rfl rfl (Nat.le_of_ble_eq_true rfl) dX6_says_69 rfl ?_
        refine k_bipush C 74 (v := 9) (by decide) dX6_says_72 rfl ?_
        refine k_ret C rfl dX6_says_74 ?_
        exact ⟨by simp [pSays, bSays, w1_6], by simp [pSays, bSays, bgs, w1_6]⟩
      · skip
        refine k_look C 75 (off := 74) (by decide) (by have z0 := i_ne w1_1 (k := 1) rfl; have z1 := i_ne w1_4 (k := 4) rfl; have z2 := i_ne w1_6 (k := 6) rfl; simp [Op.lookupswitch.offset, List.find?, beq_false_of_ne (Ne.symm z0), z0, Ne.symm z0, beq_false_of_ne (Ne.symm z1), z1, Ne.symm z1, beq_false_of_ne (Ne.symm z2), z2, Ne.symm z2]) dX6_says_1 (by decide) ?_
        refine k_aload_n C 76 0 rfl rfl dX6_says_75 rfl ?_
        refine k_bipush C 78 (v := 10) (by decide) dX6_says_76 rfl ?_
        refine k_callVU C 81 (As := [.int 10]) (st := []) 78 (by decide) (ce_78 g _) rfl rfl mwX6_49 vlX6_begin (qX6_begin l g M t ht 10) mlX6_begin (by decide) (by decide) rfl rfl (Nat.le_of_ble_eq_true rfl) dX6_says_78 rfl ?_
        refine k_iload_n C 82 2 rfl rfl dX6_says_81 rfl ?_
        refine k_aload_n C 83 0 rfl rfl dX6_says_82 rfl ?_
        refine k_get C 86 flX6_29 78 (by decide) (v := .int ((trC M (bg t 10)) 78 4)) (ce_78 g _) rfl dX6_says_83 rfl ?_
        refine k_teq (y := M 78 4) (trC_o _ _ (by decide)) ?_
        refine k_iadd C 87 dX6_says_86 rfl ?_
        refine k_ret C rfl dX6_says_87 ?_
        exact ⟨by simp [pSays, bSays, w1_1, w1_4, w1_6], by simp [pSays, bSays, bgs, w1_1, w1_4, w1_6]⟩
set_option maxHeartbeats 4000000 in
set_option maxRecDepth 20000 in
theorem qX6_asks0 (l : Launch) (g : GT) (M : Mem) (t : Nat × (Nat → Int32)) (ht : t.1 ≤ 30) (x : Int32) : CtrE l g yX6_asks cX6_asks 3 (some .int) 4 [.ref (ga g 78), .int 0, .int x] (trC M t) (pAsks0 (M 78 3) (M 78 4) x) (trC M (bgs t (bAsks0 (M 78 3)))) := by
  refine ctrI_of (by decide +kernel) (Nat.le_of_ble_eq_true rfl) ?_
  intro pP eE RR sS mI aG bB mE cD C
  refine k_lo (lo' := [(0, .ref (ga g 78)), (1, .int 0), (2, .int x)]) rfl ?_
  refine k_iload_n C 1 1 rfl rfl dX6_asks_0 rfl ?_
  refine k_tout C 84 (by decide) dX6_asks_1 (by decide) ?_
  refine k_aload_n C 85 0 rfl rfl dX6_asks_84 rfl ?_
  refine k_bipush C 87 (v := 11) (by decide) dX6_asks_85 rfl ?_
  refine k_callVU C 90 (As := [.int 11]) (st := []) 78 (by decide) (ce_78 g _) rfl rfl mwX6_49 vlX6_begin (qX6_begin l g M t ht 11) mlX6_begin (by decide) (by decide) rfl rfl (Nat.le_of_ble_eq_true rfl) dX6_asks_87 rfl ?_
  refine k_aload_n C 91 0 rfl rfl dX6_asks_90 rfl ?_
  refine k_aload_n C 92 0 rfl rfl dX6_asks_91 rfl ?_
  refine k_get C 95 flX6_28 78 (by decide) (v := .int ((trC M (bg t 11)) 78 3)) (ce_78 g _) rfl dX6_asks_92 rfl ?_
  refine k_teq (y := M 78 3) (trC_o _ _ (by decide)) ?_
  refine k_iload_n C 96 2 rfl rfl dX6_asks_95 rfl ?_
  refine k_callVE C 99 (As := [.int (M 78 3), .int x]) (st := []) 78 (by decide) (ce_78 g _) rfl rfl mwX6_36 vlX6_says (qX6_says l g M (bg t 11) (bg_le _ _ ht) (M 78 3) x) mlX6_says (by decide) (by decide) rfl rfl (Nat.le_of_ble_eq_true rfl) dX6_asks_96 rfl ?_
  refine k_iconst C 100 (v := 2) (by decide) dX6_asks_99 rfl ?_
  refine k_imul C 101 dX6_asks_100 rfl ?_
  refine k_ret C rfl dX6_asks_101 ?_
  exact ⟨by simp [pAsks0, bAsks0], by simp [pAsks0, bAsks0, bgs]⟩
set_option maxHeartbeats 4000000 in
set_option maxRecDepth 20000 in
theorem qX6_asks2 (l : Launch) (g : GT) (M : Mem) (t : Nat × (Nat → Int32)) (ht : t.1 ≤ 30) (x : Int32) : CtrE l g yX6_asks cX6_asks 3 (some .int) 5 [.ref (ga g 78), .int 2, .int x] (trC M t) (pAsks 2 (M 78 3) (M 78 4) (M 78 5) x) (trC M (bgs t (bAsks 2 (M 78 3)))) := by
  refine ctrI_of (by decide +kernel) (Nat.le_of_ble_eq_true rfl) ?_
  intro pP eE RR sS mI aG bB mE cD C
  refine k_lo (lo' := [(0, .ref (ga g 78)), (1, .int 2), (2, .int x)]) rfl ?_
  refine k_iload_n C 1 1 rfl rfl dX6_asks_0 rfl ?_
  refine k_tin C 36 (by decide) (by decide) (by rfl) dX6_asks_1 (by decide) ?_
  refine k_aload_n C 37 0 rfl rfl dX6_asks_36 rfl ?_
  refine k_bipush C 39 (v := 30) (by decide) dX6_asks_37 rfl ?_
  refine k_callVU C 42 (As := [.int 30]) (st := []) 78 (by decide) (ce_78 g _) rfl rfl mwX6_49 vlX6_begin (qX6_begin l g M t ht 30) mlX6_begin (by decide) (by decide) rfl rfl (Nat.le_of_ble_eq_true rfl) dX6_asks_39 rfl ?_
  refine k_iconst C 43 (v := 0) (by decide) dX6_asks_42 rfl ?_
  refine k_aload_n C 44 0 rfl rfl dX6_asks_43 rfl ?_
  refine k_iconst C 45 (v := 0) (by decide) dX6_asks_44 rfl ?_
  refine k_iload_n C 46 2 rfl rfl dX6_asks_45 rfl ?_
  refine k_callVE C 49 (As := [.int 0, .int x]) (st := [.int 0]) 78 (by decide) (ce_78 g _) rfl rfl mwX6_40 vlX6_asks (qX6_asks0 l g M (bg t 30) (bg_le _ _ ht) x) mlX6_asks (by decide) (by decide) rfl rfl (Nat.le_of_ble_eq_true rfl) dX6_asks_46 rfl ?_
  refine k_isub C 50 dX6_asks_49 rfl ?_
  refine k_ret C rfl dX6_asks_50 ?_
  exact ⟨by simp [pAsks, bAsks], by simp [pAsks, bAsks, bgs]⟩
set_option maxHeartbeats 4000000 in
set_option maxRecDepth 20000 in
theorem qX6_asks (l : Launch) (g : GT) (M : Mem) (t : Nat × (Nat → Int32)) (ht : t.1 ≤ 30) (fr : Int32) (x : Int32) : CtrE l g yX6_asks cX6_asks 3 (some .int) 6 [.ref (ga g 78), .int fr, .int x] (trC M t) (pAsks fr (M 78 3) (M 78 4) (M 78 5) x) (trC M (bgs t (bAsks fr (M 78 3)))) := by
  refine ctrI_of (by decide +kernel) (Nat.le_of_ble_eq_true rfl) ?_
  intro pP eE RR sS mI aG bB mE cD C
  refine k_lo (lo' := [(0, .ref (ga g 78)), (1, .int fr), (2, .int x)]) rfl ?_
  refine k_iload_n C 1 1 rfl rfl dX6_asks_0 rfl ?_
  by_cases w1_2 : fr = 2
  · skip
    refine k_tin C 36 (by rw [w1_2]; decide) (by rw [w1_2]; decide) (by rw [w1_2]; rfl) dX6_asks_1 (by decide) ?_
    refine k_aload_n C 37 0 rfl rfl dX6_asks_36 rfl ?_
    refine k_bipush C 39 (v := 30) (by decide) dX6_asks_37 rfl ?_
    refine k_callVU C 42 (As := [.int 30]) (st := []) 78 (by decide) (ce_78 g _) rfl rfl mwX6_49 vlX6_begin (qX6_begin l g M t ht 30) mlX6_begin (by decide) (by decide) rfl rfl (Nat.le_of_ble_eq_true rfl) dX6_asks_39 rfl ?_
    refine k_iconst C 43 (v := 0) (by decide) dX6_asks_42 rfl ?_
    refine k_aload_n C 44 0 rfl rfl dX6_asks_43 rfl ?_
    refine k_iconst C 45 (v := 0) (by decide) dX6_asks_44 rfl ?_
    refine k_iload_n C 46 2 rfl rfl dX6_asks_45 rfl ?_
    refine k_callVE C 49 (As := [.int 0, .int x]) (st := [.int 0]) 78 (by decide) (ce_78 g _) rfl rfl mwX6_40 vlX6_asks (qX6_asks0 l g M (bg t 30) (bg_le _ _ ht) x) mlX6_asks (by decide) (by decide) rfl rfl (Nat.le_of_ble_eq_true rfl) dX6_asks_46 rfl ?_
    refine k_isub C 50 dX6_asks_49 rfl ?_
    refine k_ret C rfl dX6_asks_50 ?_
    refine ⟨?_, ?_⟩ <;> first | (simp [pAsks, bAsks, bgs, w1_2]; done) | (simp [pAsks, pAsks0, bAsks, bAsks0, bgs, w1_2]; done)
  · skip
    by_cases w1_5 : fr = 5
    · skip
      refine k_tin C 51 (by rw [w1_5]; decide) (by rw [w1_5]; decide) (by rw [w1_5]; rfl) dX6_asks_1 (by decide) ?_
      refine k_aload_n C 52 0 rfl rfl dX6_asks_51 rfl ?_
      refine k_bipush C 54 (v := 60) (by decide) dX6_asks_52 rfl ?_
      refine k_callVU C 57 (As := [.int 60]) (st := []) 78 (by decide) (ce_78 g _) rfl rfl mwX6_49 vlX6_begin (qX6_begin l g M t ht 60) mlX6_begin (by decide) (by decide) rfl rfl (Nat.le_of_ble_eq_true rfl) dX6_asks_54 rfl ?_
      refine k_aload_n C 58 0 rfl rfl dX6_asks_57 rfl ?_
      refine k_iconst C 59 (v := 2) (by decide) dX6_asks_58 rfl ?_
      refine k_iload_n C 60 2 rfl rfl dX6_asks_59 rfl ?_
      refine k_iconst C 61 (v := 1) (by decide) dX6_asks_60 rfl ?_
      refine k_iadd C 62 dX6_asks_61 rfl ?_
      refine k_callVE C 65 (As := [.int 2, .int (x + 1)]) (st := []) 78 (by decide) (ce_78 g _) rfl rfl mwX6_40 vlX6_asks (qX6_asks2 l g M (bg t 60) (bg_le _ _ ht) (x + 1)) mlX6_asks (by decide) (by decide) rfl rfl (Nat.le_of_ble_eq_true rfl) dX6_asks_62 rfl ?_
      refine k_ret C rfl dX6_asks_65 ?_
      refine ⟨?_, ?_⟩ <;> first | (simp [pAsks, bAsks, bgs, w1_5]; done) | (simp [pAsks, pAsks0, bAsks, bAsks0, bgs, w1_5]; done)
    · skip
      by_cases w1_6 : fr = 6
      · skip
        refine k_tin C 66 (by rw [w1_6]; decide) (by rw [w1_6]; decide) (by rw [w1_6]; rfl) dX6_asks_1 (by decide) ?_
        refine k_aload_n C 67 0 rfl rfl dX6_asks_66 rfl ?_
        refine k_bipush C 69 (v := 71) (by decide) dX6_asks_67 rfl ?_
        refine k_callVU C 72 (As := [.int 71]) (st := []) 78 (by decide) (ce_78 g _) rfl rfl mwX6_49 vlX6_begin (qX6_begin l g M t ht 71) mlX6_begin (by decide) (by decide) rfl rfl (Nat.le_of_ble_eq_true rfl) dX6_asks_69 rfl ?_
        refine k_aload_n C 73 0 rfl rfl dX6_asks_72 rfl ?_
        refine k_iconst C 74 (v := 0) (by decide) dX6_asks_73 rfl ?_
        refine k_iload_n C 75 2 rfl rfl dX6_asks_74 rfl ?_
        refine k_callVE C 78 (As := [.int 0, .int x]) (st := []) 78 (by decide) (ce_78 g _) rfl rfl mwX6_40 vlX6_asks (qX6_asks0 l g M (bg t 71) (bg_le _ _ ht) x) mlX6_asks (by decide) (by decide) rfl rfl (Nat.le_of_ble_eq_true rfl) dX6_asks_75 rfl ?_
        refine k_aload_n C 79 0 rfl rfl dX6_asks_78 rfl ?_
        refine k_get C 82 flX6_35 78 (by decide) (v := .int ((trC M (bgs (bg t 71) (bAsks0 (M 78 3)))) 78 5)) (ce_78 g _) rfl dX6_asks_79 rfl ?_
        refine k_teq (y := M 78 5) (trC_o _ _ (by decide)) ?_
        refine k_iadd C 83 dX6_asks_82 rfl ?_
        refine k_ret C rfl dX6_asks_83 ?_
        refine ⟨?_, ?_⟩ <;> first | (simp [pAsks, bAsks, bgs, w1_6]; done) | (simp [pAsks, pAsks0, bAsks, bAsks0, bgs, w1_6]; done)
      · skip
        by_cases w1_3 : fr = 3
        · skip
          refine k_tin C 84 (by rw [w1_3]; decide) (by rw [w1_3]; decide) (by rw [w1_3]; rfl) dX6_asks_1 (by decide) ?_
          refine k_aload_n C 85 0 rfl rfl dX6_asks_84 rfl ?_
          refine k_bipush C 87 (v := 11) (by decide) dX6_asks_85 rfl ?_
          refine k_callVU C 90 (As := [.int 11]) (st := []) 78 (by decide) (ce_78 g _) rfl rfl mwX6_49 vlX6_begin (qX6_begin l g M t ht 11) mlX6_begin (by decide) (by decide) rfl rfl (Nat.le_of_ble_eq_true rfl) dX6_asks_87 rfl ?_
          refine k_aload_n C 91 0 rfl rfl dX6_asks_90 rfl ?_
          refine k_aload_n C 92 0 rfl rfl dX6_asks_91 rfl ?_
          refine k_get C 95 flX6_28 78 (by decide) (v := .int ((trC M (bg t 11)) 78 3)) (ce_78 g _) rfl dX6_asks_92 rfl ?_
          refine k_teq (y := M 78 3) (trC_o _ _ (by decide)) ?_
          refine k_iload_n C 96 2 rfl rfl dX6_asks_95 rfl ?_
          refine k_callVE C 99 (As := [.int (M 78 3), .int x]) (st := []) 78 (by decide) (ce_78 g _) rfl rfl mwX6_36 vlX6_says (qX6_says l g M (bg t 11) (bg_le _ _ ht) (M 78 3) x) mlX6_says (by decide) (by decide) rfl rfl (Nat.le_of_ble_eq_true rfl) dX6_asks_96 rfl ?_
          refine k_iconst C 100 (v := 2) (by decide) dX6_asks_99 rfl ?_
          refine k_imul C 101 dX6_asks_100 rfl ?_
          refine k_ret C rfl dX6_asks_101 ?_
          refine ⟨?_, ?_⟩ <;> first | (simp [pAsks, bAsks, bgs, w1_2, w1_5, w1_6, w1_3]; done) | (simp [pAsks, pAsks0, bAsks, bAsks0, bgs, w1_2, w1_5, w1_6, w1_3]; done)
        · skip
          by_cases w1_4 : fr = 4
          · skip
            refine k_tin C 84 (by rw [w1_4]; decide) (by rw [w1_4]; decide) (by rw [w1_4]; rfl) dX6_asks_1 (by decide) ?_
            refine k_aload_n C 85 0 rfl rfl dX6_asks_84 rfl ?_
            refine k_bipush C 87 (v := 11) (by decide) dX6_asks_85 rfl ?_
            refine k_callVU C 90 (As := [.int 11]) (st := []) 78 (by decide) (ce_78 g _) rfl rfl mwX6_49 vlX6_begin (qX6_begin l g M t ht 11) mlX6_begin (by decide) (by decide) rfl rfl (Nat.le_of_ble_eq_true rfl) dX6_asks_87 rfl ?_
            refine k_aload_n C 91 0 rfl rfl dX6_asks_90 rfl ?_
            refine k_aload_n C 92 0 rfl rfl dX6_asks_91 rfl ?_
            refine k_get C 95 flX6_28 78 (by decide) (v := .int ((trC M (bg t 11)) 78 3)) (ce_78 g _) rfl dX6_asks_92 rfl ?_
            refine k_teq (y := M 78 3) (trC_o _ _ (by decide)) ?_
            refine k_iload_n C 96 2 rfl rfl dX6_asks_95 rfl ?_
            refine k_callVE C 99 (As := [.int (M 78 3), .int x]) (st := []) 78 (by decide) (ce_78 g _) rfl rfl mwX6_36 vlX6_says (qX6_says l g M (bg t 11) (bg_le _ _ ht) (M 78 3) x) mlX6_says (by decide) (by decide) rfl rfl (Nat.le_of_ble_eq_true rfl) dX6_asks_96 rfl ?_
            refine k_iconst C 100 (v := 2) (by decide) dX6_asks_99 rfl ?_
            refine k_imul C 101 dX6_asks_100 rfl ?_
            refine k_ret C rfl dX6_asks_101 ?_
            refine ⟨?_, ?_⟩ <;> first | (simp [pAsks, bAsks, bgs, w1_2, w1_5, w1_6, w1_3, w1_4]; done) | (simp [pAsks, pAsks0, bAsks, bAsks0, bgs, w1_2, w1_5, w1_6, w1_3, w1_4]; done)
          · skip
            refine k_tout C 84 (by have z0 := i_ne w1_2 (k := 2) rfl; have z1 := i_ne w1_5 (k := 5) rfl; have z2 := i_ne w1_6 (k := 6) rfl; have z3 := i_ne w1_3 (k := 3) rfl; have z4 := i_ne w1_4 (k := 4) rfl; omega) dX6_asks_1 (by decide) ?_
            refine k_aload_n C 85 0 rfl rfl dX6_asks_84 rfl ?_
            refine k_bipush C 87 (v := 11) (by decide) dX6_asks_85 rfl ?_
            refine k_callVU C 90 (As := [.int 11]) (st := []) 78 (by decide) (ce_78 g _) rfl rfl mwX6_49 vlX6_begin (qX6_begin l g M t ht 11) mlX6_begin (by decide) (by decide) rfl rfl (Nat.le_of_ble_eq_true rfl) dX6_asks_87 rfl ?_
            refine k_aload_n C 91 0 rfl rfl dX6_asks_90 rfl ?_
            refine k_aload_n C 92 0 rfl rfl dX6_asks_91 rfl ?_
            refine k_get C 95 flX6_28 78 (by decide) (v := .int ((trC M (bg t 11)) 78 3)) (ce_78 g _) rfl dX6_asks_92 rfl ?_
            refine k_teq (y := M 78 3) (trC_o _ _ (by decide)) ?_
            refine k_iload_n C 96 2 rfl rfl dX6_asks_95 rfl ?_
            refine k_callVE C 99 (As := [.int (M 78 3), .int x]) (st := []) 78 (by decide) (ce_78 g _) rfl rfl mwX6_36 vlX6_says (qX6_says l g M (bg t 11) (bg_le _ _ ht) (M 78 3) x) mlX6_says (by decide) (by decide) rfl rfl (Nat.le_of_ble_eq_true rfl) dX6_asks_96 rfl ?_
            refine k_iconst C 100 (v := 2) (by decide) dX6_asks_99 rfl ?_
            refine k_imul C 101 dX6_asks_100 rfl ?_
            refine k_ret C rfl dX6_asks_101 ?_
            refine ⟨?_, ?_⟩ <;> first | (simp [pAsks, bAsks, bgs, w1_2, w1_5, w1_6, w1_3, w1_4]; done) | (simp [pAsks, pAsks0, bAsks, bAsks0, bgs, w1_2, w1_5, w1_6, w1_3, w1_4]; done)
set_option maxHeartbeats 4000000 in
set_option maxRecDepth 20000 in
theorem qX6_hums0 (l : Launch) (g : GT) (M : Mem) (t : Nat × (Nat → Int32)) (ht : t.1 ≤ 30) (x : Int32) : CtrE l g yX6_hums cX6_hums 3 (some .int) 7 [.ref (ga g 78), .int 0, .int x] (trC M t) (pHums0 (M 78 3) (M 78 4) (M 78 5) x) (trC M (bgs t (bHums0 (M 78 3)))) := by
  refine ctrI_of (by decide +kernel) (Nat.le_of_ble_eq_true rfl) ?_
  intro pP eE RR sS mI aG bB mE cD C
  refine k_lo (lo' := [(0, .ref (ga g 78)), (1, .int 0), (2, .int x)]) rfl ?_
  refine k_iload_n C 1 1 rfl rfl dX6_hums_0 rfl ?_
  refine k_look C 61 (off := 60) (by decide) (by decide) dX6_hums_1 (by decide) ?_
  refine k_aload_n C 62 0 rfl rfl dX6_hums_61 rfl ?_
  refine k_bipush C 64 (v := 12) (by decide) dX6_hums_62 rfl ?_
  refine k_callVU C 67 (As := [.int 12]) (st := []) 78 (by decide) (ce_78 g _) rfl rfl mwX6_49 vlX6_begin (qX6_begin l g M t ht 12) mlX6_begin (by decide) (by decide) rfl rfl (Nat.le_of_ble_eq_true rfl) dX6_hums_64 rfl ?_
  refine k_aload_n C 68 0 rfl rfl dX6_hums_67 rfl ?_
  refine k_aload_n C 69 0 rfl rfl dX6_hums_68 rfl ?_
  refine k_get C 72 flX6_28 78 (by decide) (v := .int ((trC M (bg t 12)) 78 3)) (ce_78 g _) rfl dX6_hums_69 rfl ?_
  refine k_teq (y := M 78 3) (trC_o _ _ (by decide)) ?_
  refine k_iload_n C 73 2 rfl rfl dX6_hums_72 rfl ?_
  refine k_callVE C 76 (As := [.int (M 78 3), .int x]) (st := []) 78 (by decide) (ce_78 g _) rfl rfl mwX6_40 vlX6_asks (qX6_asks l g M (bg t 12) (bg_le _ _ ht) (M 78 3) x) mlX6_asks (by decide) (by decide) rfl rfl (Nat.le_of_ble_eq_true rfl) dX6_hums_73 rfl ?_
  refine k_aload_n C 77 0 rfl rfl dX6_hums_76 rfl ?_
  refine k_get C 80 flX6_35 78 (by decide) (v := .int ((trC M (bgs (bg t 12) (bAsks (M 78 3) (M 78 3)))) 78 5)) (ce_78 g _) rfl dX6_hums_77 rfl ?_
  refine k_teq (y := M 78 5) (trC_o _ _ (by decide)) ?_
  refine k_isub C 81 dX6_hums_80 rfl ?_
  refine k_ret C rfl dX6_hums_81 ?_
  exact ⟨by simp [pHums0, bHums0], by simp [pHums0, bHums0, bgs]⟩
set_option maxHeartbeats 4000000 in
set_option maxRecDepth 20000 in
theorem qX6_hums1 (l : Launch) (g : GT) (M : Mem) (t : Nat × (Nat → Int32)) (ht : t.1 ≤ 30) (x : Int32) : CtrE l g yX6_hums cX6_hums 3 (some .int) 7 [.ref (ga g 78), .int 1, .int x] (trC M t) (pHums0 (M 78 3) (M 78 4) (M 78 5) x) (trC M (bgs t (bHums0 (M 78 3)))) := by
  refine ctrI_of (by decide +kernel) (Nat.le_of_ble_eq_true rfl) ?_
  intro pP eE RR sS mI aG bB mE cD C
  refine k_lo (lo' := [(0, .ref (ga g 78)), (1, .int 1), (2, .int x)]) rfl ?_
  refine k_iload_n C 1 1 rfl rfl dX6_hums_0 rfl ?_
  refine k_look C 61 (off := 60) (by decide) (by decide) dX6_hums_1 (by decide) ?_
  refine k_aload_n C 62 0 rfl rfl dX6_hums_61 rfl ?_
  refine k_bipush C 64 (v := 12) (by decide) dX6_hums_62 rfl ?_
  refine k_callVU C 67 (As := [.int 12]) (st := []) 78 (by decide) (ce_78 g _) rfl rfl mwX6_49 vlX6_begin (qX6_begin l g M t ht 12) mlX6_begin (by decide) (by decide) rfl rfl (Nat.le_of_ble_eq_true rfl) dX6_hums_64 rfl ?_
  refine k_aload_n C 68 0 rfl rfl dX6_hums_67 rfl ?_
  refine k_aload_n C 69 0 rfl rfl dX6_hums_68 rfl ?_
  refine k_get C 72 flX6_28 78 (by decide) (v := .int ((trC M (bg t 12)) 78 3)) (ce_78 g _) rfl dX6_hums_69 rfl ?_
  refine k_teq (y := M 78 3) (trC_o _ _ (by decide)) ?_
  refine k_iload_n C 73 2 rfl rfl dX6_hums_72 rfl ?_
  refine k_callVE C 76 (As := [.int (M 78 3), .int x]) (st := []) 78 (by decide) (ce_78 g _) rfl rfl mwX6_40 vlX6_asks (qX6_asks l g M (bg t 12) (bg_le _ _ ht) (M 78 3) x) mlX6_asks (by decide) (by decide) rfl rfl (Nat.le_of_ble_eq_true rfl) dX6_hums_73 rfl ?_
  refine k_aload_n C 77 0 rfl rfl dX6_hums_76 rfl ?_
  refine k_get C 80 flX6_35 78 (by decide) (v := .int ((trC M (bgs (bg t 12) (bAsks (M 78 3) (M 78 3)))) 78 5)) (ce_78 g _) rfl dX6_hums_77 rfl ?_
  refine k_teq (y := M 78 5) (trC_o _ _ (by decide)) ?_
  refine k_isub C 81 dX6_hums_80 rfl ?_
  refine k_ret C rfl dX6_hums_81 ?_
  exact ⟨by simp [pHums0, bHums0], by simp [pHums0, bHums0, bgs]⟩
set_option maxHeartbeats 4000000 in
set_option maxRecDepth 20000 in
theorem qX6_hums (l : Launch) (g : GT) (M : Mem) (t : Nat × (Nat → Int32)) (ht : t.1 ≤ 30) (fr : Int32) (x : Int32) : CtrE l g yX6_hums cX6_hums 3 (some .int) 8 [.ref (ga g 78), .int fr, .int x] (trC M t) (pHums fr (M 78 3) (M 78 4) (M 78 5) x) (trC M (bgs t (bHums fr (M 78 3)))) := by
  refine ctrI_of (by decide +kernel) (Nat.le_of_ble_eq_true rfl) ?_
  intro pP eE RR sS mI aG bB mE cD C
  refine k_lo (lo' := [(0, .ref (ga g 78)), (1, .int fr), (2, .int x)]) rfl ?_
  refine k_iload_n C 1 1 rfl rfl dX6_hums_0 rfl ?_
  by_cases w1_3 : fr = 3
  · skip
    refine k_look C 28 (by decide) (by rw [w1_3]) dX6_hums_1 (by decide) ?_
    refine k_aload_n C 29 0 rfl rfl dX6_hums_28 rfl ?_
    refine k_bipush C 31 (v := 40) (by decide) dX6_hums_29 rfl ?_
    refine k_callVU C 34 (As := [.int 40]) (st := []) 78 (by decide) (ce_78 g _) rfl rfl mwX6_49 vlX6_begin (qX6_begin l g M t ht 40) mlX6_begin (by decide) (by decide) rfl rfl (Nat.le_of_ble_eq_true rfl) dX6_hums_31 rfl ?_
    refine k_aload_n C 35 0 rfl rfl dX6_hums_34 rfl ?_
    refine k_iconst C 36 (v := 0) (by decide) dX6_hums_35 rfl ?_
    refine k_iload_n C 37 2 rfl rfl dX6_hums_36 rfl ?_
    refine k_iconst C 38 (v := 2) (by decide) dX6_hums_37 rfl ?_
    refine k_idiv C 39 (by decide) dX6_hums_38 rfl ?_
    refine k_callVE C 42 (As := [.int 0, .int (x / 2)]) (st := []) 78 (by decide) (ce_78 g _) rfl rfl mwX6_43 vlX6_hums (qX6_hums0 l g M (bg t 40) (bg_le _ _ ht) (x / 2)) mlX6_hums (by decide) (by decide) rfl rfl (Nat.le_of_ble_eq_true rfl) dX6_hums_39 rfl ?_
    refine k_ret C rfl dX6_hums_42 ?_
    refine ⟨?_, ?_⟩ <;> first | (simp [pHums, bHums, bgs, w1_3]; done) | (simp [pHums, pHums0, bHums, bHums0, bgs, w1_3]; done)
  · skip
    by_cases w1_4 : fr = 4
    · skip
      refine k_look C 43 (by decide) (by rw [w1_4]) dX6_hums_1 (by decide) ?_
      refine k_aload_n C 44 0 rfl rfl dX6_hums_43 rfl ?_
      refine k_bipush C 46 (v := 51) (by decide) dX6_hums_44 rfl ?_
      refine k_callVU C 49 (As := [.int 51]) (st := []) 78 (by decide) (ce_78 g _) rfl rfl mwX6_49 vlX6_begin (qX6_begin l g M t ht 51) mlX6_begin (by decide) (by decide) rfl rfl (Nat.le_of_ble_eq_true rfl) dX6_hums_46 rfl ?_
      refine k_aload_n C 50 0 rfl rfl dX6_hums_49 rfl ?_
      refine k_iconst C 51 (v := 1) (by decide) dX6_hums_50 rfl ?_
      refine k_iload_n C 52 2 rfl rfl dX6_hums_51 rfl ?_
      refine k_callVE C 55 (As := [.int 1, .int x]) (st := []) 78 (by decide) (ce_78 g _) rfl rfl mwX6_43 vlX6_hums (qX6_hums1 l g M (bg t 51) (bg_le _ _ ht) x) mlX6_hums (by decide) (by decide) rfl rfl (Nat.le_of_ble_eq_true rfl) dX6_hums_52 rfl ?_
      refine k_aload_n C 56 0 rfl rfl dX6_hums_55 rfl ?_
      refine k_get C 59 flX6_29 78 (by decide) (v := .int ((trC M (bgs (bg t 51) (bHums0 (M 78 3)))) 78 4)) (ce_78 g _) rfl dX6_hums_56 rfl ?_
      refine k_teq (y := M 78 4) (trC_o _ _ (by decide)) ?_
      refine k_ixor C 60 dX6_hums_59 rfl ?_
      refine k_ret C rfl dX6_hums_60 ?_
      refine ⟨?_, ?_⟩ <;> first | (simp [pHums, bHums, bgs, w1_4]; done) | (simp [pHums, pHums0, bHums, bHums0, bgs, w1_4]; done)
    · skip
      refine k_look C 61 (off := 60) (by decide) (by have z0 := i_ne w1_3 (k := 3) rfl; have z1 := i_ne w1_4 (k := 4) rfl; simp [Op.lookupswitch.offset, List.find?, beq_false_of_ne (Ne.symm z0), z0, Ne.symm z0, beq_false_of_ne (Ne.symm z1), z1, Ne.symm z1]) dX6_hums_1 (by decide) ?_
      refine k_aload_n C 62 0 rfl rfl dX6_hums_61 rfl ?_
      refine k_bipush C 64 (v := 12) (by decide) dX6_hums_62 rfl ?_
      refine k_callVU C 67 (As := [.int 12]) (st := []) 78 (by decide) (ce_78 g _) rfl rfl mwX6_49 vlX6_begin (qX6_begin l g M t ht 12) mlX6_begin (by decide) (by decide) rfl rfl (Nat.le_of_ble_eq_true rfl) dX6_hums_64 rfl ?_
      refine k_aload_n C 68 0 rfl rfl dX6_hums_67 rfl ?_
      refine k_aload_n C 69 0 rfl rfl dX6_hums_68 rfl ?_
      refine k_get C 72 flX6_28 78 (by decide) (v := .int ((trC M (bg t 12)) 78 3)) (ce_78 g _) rfl dX6_hums_69 rfl ?_
      refine k_teq (y := M 78 3) (trC_o _ _ (by decide)) ?_
      refine k_iload_n C 73 2 rfl rfl dX6_hums_72 rfl ?_
      refine k_callVE C 76 (As := [.int (M 78 3), .int x]) (st := []) 78 (by decide) (ce_78 g _) rfl rfl mwX6_40 vlX6_asks (qX6_asks l g M (bg t 12) (bg_le _ _ ht) (M 78 3) x) mlX6_asks (by decide) (by decide) rfl rfl (Nat.le_of_ble_eq_true rfl) dX6_hums_73 rfl ?_
      refine k_aload_n C 77 0 rfl rfl dX6_hums_76 rfl ?_
      refine k_get C 80 flX6_35 78 (by decide) (v := .int ((trC M (bgs (bg t 12) (bAsks (M 78 3) (M 78 3)))) 78 5)) (ce_78 g _) rfl dX6_hums_77 rfl ?_
      refine k_teq (y := M 78 5) (trC_o _ _ (by decide)) ?_
      refine k_isub C 81 dX6_hums_80 rfl ?_
      refine k_ret C rfl dX6_hums_81 ?_
      refine ⟨?_, ?_⟩ <;> first | (simp [pHums, bHums, bgs, w1_3, w1_4]; done) | (simp [pHums, pHums0, bHums, bHums0, bgs, w1_3, w1_4]; done)
set_option maxHeartbeats 4000000 in
set_option maxRecDepth 20000 in
theorem qX6_parts0 (l : Launch) (g : GT) (M : Mem) (t : Nat × (Nat → Int32)) (ht : t.1 ≤ 30) (x : Int32) : CtrE l g yX6_parts cX6_parts 4 (some .int) 1 [.ref (ga g 78), .int 0, .int x] (trC M t) (pParts0 (M 78 4) (M 78 5) x) (trC (if M 78 5 = M 78 4 then mu M 78 2 1 else M) (bgs t [13])) := by
  refine ctrI_of (by decide +kernel) (Nat.le_of_ble_eq_true rfl) ?_
  intro pP eE RR sS mI aG bB mE cD C
  refine k_lo (lo' := [(0, .ref (ga g 78)), (1, .int 0), (2, .int x)]) rfl ?_
  refine k_iload_n C 1 1 rfl rfl dX6_parts_0 rfl ?_
  refine k_look C 64 (off := 63) (by decide) (by decide) dX6_parts_1 (by decide) ?_
  refine k_aload_n C 65 0 rfl rfl dX6_parts_64 rfl ?_
  refine k_bipush C 67 (v := 13) (by decide) dX6_parts_65 rfl ?_
  refine k_callVU C 70 (As := [.int 13]) (st := []) 78 (by decide) (ce_78 g _) rfl rfl mwX6_49 vlX6_begin (qX6_begin l g M t ht 13) mlX6_begin (by decide) (by decide) rfl rfl (Nat.le_of_ble_eq_true rfl) dX6_parts_67 rfl ?_
  refine k_aload_n C 71 0 rfl rfl dX6_parts_70 rfl ?_
  refine k_get C 74 flX6_35 78 (by decide) (v := .int ((trC M (bg t 13)) 78 5)) (ce_78 g _) rfl dX6_parts_71 rfl ?_
  refine k_teq (y := M 78 5) (trC_o _ _ (by decide)) ?_
  refine k_aload_n C 75 0 rfl rfl dX6_parts_74 rfl ?_
  refine k_get C 78 flX6_29 78 (by decide) (v := .int ((trC M (bg t 13)) 78 4)) (ce_78 g _) rfl dX6_parts_75 rfl ?_
  refine k_teq (y := M 78 4) (trC_o _ _ (by decide)) ?_
  refine k_icmp_ne C 88 81 dX6_parts_78 (by decide) rfl (fun c78 => ?_) (fun d78 => ?_)
  · skip
    refine k_iload_n C 89 2 rfl rfl dX6_parts_88 rfl ?_
    refine k_aload_n C 90 0 rfl rfl dX6_parts_89 rfl ?_
    refine k_get C 93 flX6_35 78 (by decide) (v := .int ((trC M (bg t 13)) 78 5)) (ce_78 g _) rfl dX6_parts_90 rfl ?_
    refine k_teq (y := M 78 5) (trC_o _ _ (by decide)) ?_
    refine k_aload_n C 94 0 rfl rfl dX6_parts_93 rfl ?_
    refine k_get C 97 flX6_29 78 (by decide) (v := .int ((trC M (bg t 13)) 78 4)) (ce_78 g _) rfl dX6_parts_94 rfl ?_
    refine k_teq (y := M 78 4) (trC_o _ _ (by decide)) ?_
    refine k_isub C 98 dX6_parts_97 rfl ?_
    refine k_idiv C 99 (Int32_sub_ne c78) dX6_parts_98 rfl ?_
    refine k_ret C rfl dX6_parts_99 ?_
    exact ⟨by simp [pParts0, c78], by simp [bgs, c78]⟩
  · skip
    refine k_aload_n C 82 0 rfl rfl dX6_parts_81 rfl ?_
    refine k_iconst C 83 (v := 1) (by decide) dX6_parts_82 rfl ?_
    refine k_put C 86 flX6_15 plX6 78 (by decide) (ce_78 g _) (ce_78 g _) (Nat.le_of_ble_eq_true rfl) rfl rfl rfl dX6_parts_83 rfl ?_
    refine k_iconst C 87 (v := 0) (by decide) dX6_parts_86 rfl ?_
    refine k_ret C rfl dX6_parts_87 ?_
    exact ⟨by simp [pParts0, d78], by rw [trC_p]; simp [bgs, d78]⟩
set_option maxHeartbeats 4000000 in
set_option maxRecDepth 20000 in
theorem qX6_parts (l : Launch) (g : GT) (M : Mem) (t : Nat × (Nat → Int32)) (ht : t.1 ≤ 30) (h2 : M 78 2 = 0) (fr : Int32) (x : Int32) : CtrE l g yX6_parts cX6_parts 4 (some .int) 7 [.ref (ga g 78), .int fr, .int x] (trC M t) (pParts fr (M 78 3) (M 78 4) (M 78 5) x) (trC (if M 78 5 = M 78 4 then mu M 78 2 1 else M) (bgs t (bParts fr (M 78 3) (M 78 4) (M 78 5)))) := by
  refine ctrI_of (by decide +kernel) (Nat.le_of_ble_eq_true rfl) ?_
  intro pP eE RR sS mI aG bB mE cD C
  refine k_lo (lo' := [(0, .ref (ga g 78)), (1, .int fr), (2, .int x)]) rfl ?_
  refine k_iload_n C 1 1 rfl rfl dX6_parts_0 rfl ?_
  by_cases w1_1 : fr = 1
  · skip
    refine k_look C 28 (by decide) (by rw [w1_1]) dX6_parts_1 (by decide) ?_
    refine k_aload_n C 29 0 rfl rfl dX6_parts_28 rfl ?_
    refine k_bipush C 31 (v := 21) (by decide) dX6_parts_29 rfl ?_
    refine k_callVU C 34 (As := [.int 21]) (st := []) 78 (by decide) (ce_78 g _) rfl rfl mwX6_49 vlX6_begin (qX6_begin l g M t ht 21) mlX6_begin (by decide) (by decide) rfl rfl (Nat.le_of_ble_eq_true rfl) dX6_parts_31 rfl ?_
    refine k_aload_n C 35 0 rfl rfl dX6_parts_34 rfl ?_
    refine k_iconst C 36 (v := 0) (by decide) dX6_parts_35 rfl ?_
    refine k_iload_n C 37 2 rfl rfl dX6_parts_36 rfl ?_
    refine k_callVE C 40 (As := [.int 0, .int x]) (st := []) 78 (by decide) (ce_78 g _) rfl rfl mwX6_46 vlX6_parts (qX6_parts0 l g M (bg t 21) (bg_le _ _ ht) x) mlX6_parts (by decide) (by decide) rfl rfl (Nat.le_of_ble_eq_true rfl) dX6_parts_37 rfl ?_
    by_cases hk : M 78 5 = M 78 4
    · skip
      refine k_mem (M' := trC (mu M 78 2 1) (bgs (bg t 21) [13])) (by simp [hk]) ?_
      refine k_istore_n C 41 [(3, .int (pParts0 (M 78 4) (M 78 5) x)), (0, .ref (ga g 78)), (1, .int fr), (2, .int x)] rfl (by decide) rfl dX6_parts_40 rfl ?_
      refine k_aload_n C 42 1 rfl rfl dX6_parts_41 rfl ?_
      refine k_get C 45 flX6_15 78 (by decide) (v := .int ((trC (mu M 78 2 1) (bgs (bg t 21) [13])) 78 2)) (ce_78 g _) rfl dX6_parts_42 rfl ?_
      refine k_teq (y := (mu M 78 2 1) 78 2) (trC_o _ _ (by decide)) ?_
      refine k_teq (y := 1) (mu_s _ _ _ _) ?_
      refine k_if_eq C 52 48 dX6_parts_45 (by decide) rfl (fun c45 => ?_) (fun d45 => ?_)
      · skip
        exact absurd c45 (by decide)
      · skip
        refine k_iconst C 49 (v := 0) (by decide) dX6_parts_48 rfl ?_
        refine k_goto C 63 dX6_parts_49 (by decide) ?_
        refine k_ret C rfl dX6_parts_63 ?_
        refine ⟨?_, ?_⟩ <;> first | (simp [pParts, bParts, bgs, w1_1, hk, d45]; done) | (simp [pParts, pParts0, bParts, bgs, w1_1, hk, d45]; done) | (rw [trC_p]; simp [pParts, pParts0, bParts, bgs, w1_1, hk, d45]; done)
    · skip
      refine k_mem (M' := trC M (bgs (bg t 21) [13])) (by simp [hk]) ?_
      refine k_istore_n C 41 [(3, .int (pParts0 (M 78 4) (M 78 5) x)), (0, .ref (ga g 78)), (1, .int fr), (2, .int x)] rfl (by decide) rfl dX6_parts_40 rfl ?_
      refine k_aload_n C 42 1 rfl rfl dX6_parts_41 rfl ?_
      refine k_get C 45 flX6_15 78 (by decide) (v := .int ((trC M (bgs (bg t 21) [13])) 78 2)) (ce_78 g _) rfl dX6_parts_42 rfl ?_
      refine k_teq (y := M 78 2) (trC_o _ _ (by decide)) ?_
      refine k_teq (y := 0) h2 ?_
      refine k_if_eq C 52 48 dX6_parts_45 (by decide) rfl (fun c45 => ?_) (fun d45 => ?_)
      · skip
        refine k_iload_n C 53 0 rfl rfl dX6_parts_52 rfl ?_
        refine k_aload_n C 54 1 rfl rfl dX6_parts_53 rfl ?_
        refine k_aload_n C 55 1 rfl rfl dX6_parts_54 rfl ?_
        refine k_get C 58 flX6_28 78 (by decide) (v := .int ((trC M (bgs (bg t 21) [13])) 78 3)) (ce_78 g _) rfl dX6_parts_55 rfl ?_
        refine k_teq (y := M 78 3) (trC_o _ _ (by decide)) ?_
        refine k_iconst C 59 (v := 1) (by decide) dX6_parts_58 rfl ?_
        refine k_callVE C 62 (As := [.int (M 78 3), .int 1]) (st := [.int (pParts0 (M 78 4) (M 78 5) x)]) 78 (by decide) (ce_78 g _) rfl rfl mwX6_40 vlX6_asks (qX6_asks l g M (bgs (bg t 21) [13]) (bgs_le _ _ (bg_le _ _ ht)) (M 78 3) 1) mlX6_asks (by decide) (by decide) rfl rfl (Nat.le_of_ble_eq_true rfl) dX6_parts_59 rfl ?_
        refine k_iadd C 63 dX6_parts_62 rfl ?_
        refine k_ret C rfl dX6_parts_63 ?_
        refine ⟨?_, ?_⟩ <;> first | (simp [pParts, bParts, bgs, w1_1, hk, c45]; done) | (simp [pParts, pParts0, bParts, bgs, w1_1, hk, c45]; done) | (rw [trC_p]; simp [pParts, pParts0, bParts, bgs, w1_1, hk, c45]; done)
      · skip
        exact absurd d45 (by decide)
  · skip
    by_cases w1_4 : fr = 4
    · skip
      refine k_look C 28 (by decide) (by rw [w1_4]) dX6_parts_1 (by decide) ?_
      refine k_aload_n C 29 0 rfl rfl dX6_parts_28 rfl ?_
      refine k_bipush C 31 (v := 21) (by decide) dX6_parts_29 rfl ?_
      refine k_callVU C 34 (As := [.int 21]) (st := []) 78 (by decide) (ce_78 g _) rfl rfl mwX6_49 vlX6_begin (qX6_begin l g M t ht 21) mlX6_begin (by decide) (by decide) rfl rfl (Nat.le_of_ble_eq_true rfl) dX6_parts_31 rfl ?_
      refine k_aload_n C 35 0 rfl rfl dX6_parts_34 rfl ?_
      refine k_iconst C 36 (v := 0) (by decide) dX6_parts_35 rfl ?_
      refine k_iload_n C 37 2 rfl rfl dX6_parts_36 rfl ?_
      refine k_callVE C 40 (As := [.int 0, .int x]) (st := []) 78 (by decide) (ce_78 g _) rfl rfl mwX6_46 vlX6_parts (qX6_parts0 l g M (bg t 21) (bg_le _ _ ht) x) mlX6_parts (by decide) (by decide) rfl rfl (Nat.le_of_ble_eq_true rfl) dX6_parts_37 rfl ?_
      by_cases hk : M 78 5 = M 78 4
      · skip
        refine k_mem (M' := trC (mu M 78 2 1) (bgs (bg t 21) [13])) (by simp [hk]) ?_
        refine k_istore_n C 41 [(3, .int (pParts0 (M 78 4) (M 78 5) x)), (0, .ref (ga g 78)), (1, .int fr), (2, .int x)] rfl (by decide) rfl dX6_parts_40 rfl ?_
        refine k_aload_n C 42 1 rfl rfl dX6_parts_41 rfl ?_
        refine k_get C 45 flX6_15 78 (by decide) (v := .int ((trC (mu M 78 2 1) (bgs (bg t 21) [13])) 78 2)) (ce_78 g _) rfl dX6_parts_42 rfl ?_
        refine k_teq (y := (mu M 78 2 1) 78 2) (trC_o _ _ (by decide)) ?_
        refine k_teq (y := 1) (mu_s _ _ _ _) ?_
        refine k_if_eq C 52 48 dX6_parts_45 (by decide) rfl (fun c45 => ?_) (fun d45 => ?_)
        · skip
          exact absurd c45 (by decide)
        · skip
          refine k_iconst C 49 (v := 0) (by decide) dX6_parts_48 rfl ?_
          refine k_goto C 63 dX6_parts_49 (by decide) ?_
          refine k_ret C rfl dX6_parts_63 ?_
          refine ⟨?_, ?_⟩ <;> first | (simp [pParts, bParts, bgs, w1_4, hk, d45]; done) | (simp [pParts, pParts0, bParts, bgs, w1_4, hk, d45]; done) | (rw [trC_p]; simp [pParts, pParts0, bParts, bgs, w1_4, hk, d45]; done)
      · skip
        refine k_mem (M' := trC M (bgs (bg t 21) [13])) (by simp [hk]) ?_
        refine k_istore_n C 41 [(3, .int (pParts0 (M 78 4) (M 78 5) x)), (0, .ref (ga g 78)), (1, .int fr), (2, .int x)] rfl (by decide) rfl dX6_parts_40 rfl ?_
        refine k_aload_n C 42 1 rfl rfl dX6_parts_41 rfl ?_
        refine k_get C 45 flX6_15 78 (by decide) (v := .int ((trC M (bgs (bg t 21) [13])) 78 2)) (ce_78 g _) rfl dX6_parts_42 rfl ?_
        refine k_teq (y := M 78 2) (trC_o _ _ (by decide)) ?_
        refine k_teq (y := 0) h2 ?_
        refine k_if_eq C 52 48 dX6_parts_45 (by decide) rfl (fun c45 => ?_) (fun d45 => ?_)
        · skip
          refine k_iload_n C 53 0 rfl rfl dX6_parts_52 rfl ?_
          refine k_aload_n C 54 1 rfl rfl dX6_parts_53 rfl ?_
          refine k_aload_n C 55 1 rfl rfl dX6_parts_54 rfl ?_
          refine k_get C 58 flX6_28 78 (by decide) (v := .int ((trC M (bgs (bg t 21) [13])) 78 3)) (ce_78 g _) rfl dX6_parts_55 rfl ?_
          refine k_teq (y := M 78 3) (trC_o _ _ (by decide)) ?_
          refine k_iconst C 59 (v := 1) (by decide) dX6_parts_58 rfl ?_
          refine k_callVE C 62 (As := [.int (M 78 3), .int 1]) (st := [.int (pParts0 (M 78 4) (M 78 5) x)]) 78 (by decide) (ce_78 g _) rfl rfl mwX6_40 vlX6_asks (qX6_asks l g M (bgs (bg t 21) [13]) (bgs_le _ _ (bg_le _ _ ht)) (M 78 3) 1) mlX6_asks (by decide) (by decide) rfl rfl (Nat.le_of_ble_eq_true rfl) dX6_parts_59 rfl ?_
          refine k_iadd C 63 dX6_parts_62 rfl ?_
          refine k_ret C rfl dX6_parts_63 ?_
          refine ⟨?_, ?_⟩ <;> first | (simp [pParts, bParts, bgs, w1_4, hk, c45]; done) | (simp [pParts, pParts0, bParts, bgs, w1_4, hk, c45]; done) | (rw [trC_p]; simp [pParts, pParts0, bParts, bgs, w1_4, hk, c45]; done)
        · skip
          exact absurd d45 (by decide)
    · skip
      refine k_look C 64 (off := 63) (by decide) (by have z0 := i_ne w1_1 (k := 1) rfl; have z1 := i_ne w1_4 (k := 4) rfl; simp [Op.lookupswitch.offset, List.find?, beq_false_of_ne (Ne.symm z0), z0, Ne.symm z0, beq_false_of_ne (Ne.symm z1), z1, Ne.symm z1]) dX6_parts_1 (by decide) ?_
      refine k_aload_n C 65 0 rfl rfl dX6_parts_64 rfl ?_
      refine k_bipush C 67 (v := 13) (by decide) dX6_parts_65 rfl ?_
      refine k_callVU C 70 (As := [.int 13]) (st := []) 78 (by decide) (ce_78 g _) rfl rfl mwX6_49 vlX6_begin (qX6_begin l g M t ht 13) mlX6_begin (by decide) (by decide) rfl rfl (Nat.le_of_ble_eq_true rfl) dX6_parts_67 rfl ?_
      refine k_aload_n C 71 0 rfl rfl dX6_parts_70 rfl ?_
      refine k_get C 74 flX6_35 78 (by decide) (v := .int ((trC M (bg t 13)) 78 5)) (ce_78 g _) rfl dX6_parts_71 rfl ?_
      refine k_teq (y := M 78 5) (trC_o _ _ (by decide)) ?_
      refine k_aload_n C 75 0 rfl rfl dX6_parts_74 rfl ?_
      refine k_get C 78 flX6_29 78 (by decide) (v := .int ((trC M (bg t 13)) 78 4)) (ce_78 g _) rfl dX6_parts_75 rfl ?_
      refine k_teq (y := M 78 4) (trC_o _ _ (by decide)) ?_
      refine k_icmp_ne C 88 81 dX6_parts_78 (by decide) rfl (fun c78 => ?_) (fun d78 => ?_)
      · skip
        refine k_iload_n C 89 2 rfl rfl dX6_parts_88 rfl ?_
        refine k_aload_n C 90 0 rfl rfl dX6_parts_89 rfl ?_
        refine k_get C 93 flX6_35 78 (by decide) (v := .int ((trC M (bg t 13)) 78 5)) (ce_78 g _) rfl dX6_parts_90 rfl ?_
        refine k_teq (y := M 78 5) (trC_o _ _ (by decide)) ?_
        refine k_aload_n C 94 0 rfl rfl dX6_parts_93 rfl ?_
        refine k_get C 97 flX6_29 78 (by decide) (v := .int ((trC M (bg t 13)) 78 4)) (ce_78 g _) rfl dX6_parts_94 rfl ?_
        refine k_teq (y := M 78 4) (trC_o _ _ (by decide)) ?_
        refine k_isub C 98 dX6_parts_97 rfl ?_
        refine k_idiv C 99 (Int32_sub_ne c78) dX6_parts_98 rfl ?_
        refine k_ret C rfl dX6_parts_99 ?_
        refine ⟨?_, ?_⟩ <;> first | (simp [pParts, bParts, bgs, w1_1, w1_4, c78]; done) | (simp [pParts, pParts0, bParts, bgs, w1_1, w1_4, c78]; done) | (rw [trC_p]; simp [pParts, pParts0, bParts, bgs, w1_1, w1_4, c78]; done)
      · skip
        refine k_aload_n C 82 0 rfl rfl dX6_parts_81 rfl ?_
        refine k_iconst C 83 (v := 1) (by decide) dX6_parts_82 rfl ?_
        refine k_put C 86 flX6_15 plX6 78 (by decide) (ce_78 g _) (ce_78 g _) (Nat.le_of_ble_eq_true rfl) rfl rfl rfl dX6_parts_83 rfl ?_
        refine k_iconst C 87 (v := 0) (by decide) dX6_parts_86 rfl ?_
        refine k_ret C rfl dX6_parts_87 ?_
        refine ⟨?_, ?_⟩ <;> first | (simp [pParts, bParts, bgs, w1_1, w1_4, d78]; done) | (simp [pParts, pParts0, bParts, bgs, w1_1, w1_4, d78]; done) | (rw [trC_p]; simp [pParts, pParts0, bParts, bgs, w1_1, w1_4, d78]; done)
set_option maxHeartbeats 4000000 in
set_option maxRecDepth 20000 in
theorem qX6_speak (l : Launch) (g : GT) (M : Mem) {k : Nat} (hk : k < 37) (x4 v x : Int32) : CtrE l g yX6_speak cX6_speak 5 (some .int) 9 [.ref (ga g 78), .ref (ga g k), .int x4, .int v, .int x] M (pVoice v (M k 0) x4 (M k 1) x) (trC (spkP M k x4 v) (bgs (0, M 79) (bVoice v (M k 0) x4 (M k 1)))) := by
  refine ctrI_of (by decide +kernel) (Nat.le_of_ble_eq_true rfl) ?_
  intro pP eE RR sS mI aG bB mE cD C
  refine k_lo (lo' := [(0, .ref (ga g 78)), (1, .ref (ga g k)), (2, .int x4), (3, .int v), (4, .int x)]) rfl ?_
  have hx : ¬ (k = 78) := by omega
  refine k_aload_n C 1 0 rfl rfl dX6_speak_0 rfl ?_
  refine k_iconst C 2 (v := 0) (by decide) dX6_speak_1 rfl ?_
  refine k_put C 5 flX6_15 plX6 78 (by decide) (ce_78 g _) (ce_78 g _) (Nat.le_of_ble_eq_true rfl) rfl rfl rfl dX6_speak_2 rfl ?_
  refine k_aload_n C 6 0 rfl rfl dX6_speak_5 rfl ?_
  refine k_iconst C 7 (v := 0) (by decide) dX6_speak_6 rfl ?_
  refine k_put C 10 flX6_19 plX6 78 (by decide) (ce_78 g _) (ce_78 g _) (Nat.le_of_ble_eq_true rfl) rfl rfl rfl dX6_speak_7 rfl ?_
  refine k_aload_n C 11 0 rfl rfl dX6_speak_10 rfl ?_
  refine k_aload_n C 12 1 rfl rfl dX6_speak_11 rfl ?_
  refine k_get C 15 flX6_23 k (lt105_fu hk) (v := .int ((mu (mu M 78 2 0) 78 1 0) k 0)) (ce_fu g _ hk) rfl dX6_speak_12 rfl ?_
  refine k_teq (show (mu (mu M 78 2 0) 78 1 0) k 0 = M k 0 by simp [mu_at, hx]) ?_
  refine k_put C 18 flX6_28 plX6 78 (by decide) (ce_78 g _) (ce_78 g _) (Nat.le_of_ble_eq_true rfl) rfl rfl rfl dX6_speak_15 rfl ?_
  refine k_aload_n C 19 0 rfl rfl dX6_speak_18 rfl ?_
  refine k_iload_n C 20 2 rfl rfl dX6_speak_19 rfl ?_
  refine k_put C 23 flX6_29 plX6 78 (by decide) (ce_78 g _) (ce_78 g _) (Nat.le_of_ble_eq_true rfl) rfl rfl rfl dX6_speak_20 rfl ?_
  refine k_aload_n C 24 0 rfl rfl dX6_speak_23 rfl ?_
  refine k_aload_n C 25 1 rfl rfl dX6_speak_24 rfl ?_
  refine k_get C 28 flX6_32 k (lt105_fu hk) (v := .int ((mu (mu (mu (mu M 78 2 0) 78 1 0) 78 3 (M k 0)) 78 4 x4) k 1)) (ce_fu g _ hk) rfl dX6_speak_25 rfl ?_
  refine k_teq (show (mu (mu (mu (mu M 78 2 0) 78 1 0) 78 3 (M k 0)) 78 4 x4) k 1 = M k 1 by simp [mu_at, hx]) ?_
  refine k_put C 31 flX6_35 plX6 78 (by decide) (ce_78 g _) (ce_78 g _) (Nat.le_of_ble_eq_true rfl) rfl rfl rfl dX6_speak_28 rfl ?_
  refine k_mem (M' := trC (spk M k x4) (0, M 79)) (spk_tr M k x4) ?_
  refine k_iload_n C 32 3 rfl rfl dX6_speak_31 rfl ?_
  by_cases w32_0 : v = 0
  · skip
    refine k_tin C 60 (by rw [w32_0]; decide) (by rw [w32_0]; decide) (by rw [w32_0]; rfl) dX6_speak_32 (by decide) ?_
    refine k_aload_n C 61 0 rfl rfl dX6_speak_60 rfl ?_
    refine k_aload_n C 62 0 rfl rfl dX6_speak_61 rfl ?_
    refine k_get C 65 flX6_28 78 (by decide) (v := .int ((trC (spk M k x4) (0, M 79)) 78 3)) (ce_78 g _) rfl dX6_speak_62 rfl ?_
    refine k_teq (y := (spk M k x4) 78 3) (trC_o _ _ (by decide)) ?_
    refine k_teq (y := M k 0) (spk_3 M k x4) ?_
    refine k_iload C 67 4  rfl dX6_speak_65 rfl ?_
    refine k_callVE C 70 (As := [.int (M k 0), .int x]) (st := []) 78 (by decide) (ce_78 g _) rfl rfl mwX6_36 vlX6_says (qX6_says l g (spk M k x4) (0, M 79) (Nat.zero_le _) (M k 0) x) mlX6_says (by decide) (by decide) rfl rfl (Nat.le_of_ble_eq_true rfl) dX6_speak_67 rfl ?_
    refine k_ret C rfl dX6_speak_70 ?_
    exact ⟨by simp [pVoice, spk_3, spk_4, spk_5, w32_0], by simp [spkP, pOff, bVoice, spk_3, spk_4, spk_5, w32_0]⟩
  · skip
    by_cases w32_1 : v = 1
    · skip
      refine k_tin C 71 (by rw [w32_1]; decide) (by rw [w32_1]; decide) (by rw [w32_1]; rfl) dX6_speak_32 (by decide) ?_
      refine k_aload_n C 72 0 rfl rfl dX6_speak_71 rfl ?_
      refine k_aload_n C 73 0 rfl rfl dX6_speak_72 rfl ?_
      refine k_get C 76 flX6_28 78 (by decide) (v := .int ((trC (spk M k x4) (0, M 79)) 78 3)) (ce_78 g _) rfl dX6_speak_73 rfl ?_
      refine k_teq (y := (spk M k x4) 78 3) (trC_o _ _ (by decide)) ?_
      refine k_teq (y := M k 0) (spk_3 M k x4) ?_
      refine k_iload C 78 4  rfl dX6_speak_76 rfl ?_
      refine k_callVE C 81 (As := [.int (M k 0), .int x]) (st := []) 78 (by decide) (ce_78 g _) rfl rfl mwX6_40 vlX6_asks (qX6_asks l g (spk M k x4) (0, M 79) (Nat.zero_le _) (M k 0) x) mlX6_asks (by decide) (by decide) rfl rfl (Nat.le_of_ble_eq_true rfl) dX6_speak_78 rfl ?_
      refine k_ret C rfl dX6_speak_81 ?_
      exact ⟨by simp [pVoice, spk_3, spk_4, spk_5, w32_1], by simp [spkP, pOff, bVoice, spk_3, spk_4, spk_5, w32_1]⟩
    · skip
      by_cases w32_2 : v = 2
      · skip
        refine k_tin C 82 (by rw [w32_2]; decide) (by rw [w32_2]; decide) (by rw [w32_2]; rfl) dX6_speak_32 (by decide) ?_
        refine k_aload_n C 83 0 rfl rfl dX6_speak_82 rfl ?_
        refine k_aload_n C 84 0 rfl rfl dX6_speak_83 rfl ?_
        refine k_get C 87 flX6_28 78 (by decide) (v := .int ((trC (spk M k x4) (0, M 79)) 78 3)) (ce_78 g _) rfl dX6_speak_84 rfl ?_
        refine k_teq (y := (spk M k x4) 78 3) (trC_o _ _ (by decide)) ?_
        refine k_teq (y := M k 0) (spk_3 M k x4) ?_
        refine k_iload C 89 4  rfl dX6_speak_87 rfl ?_
        refine k_callVE C 92 (As := [.int (M k 0), .int x]) (st := []) 78 (by decide) (ce_78 g _) rfl rfl mwX6_43 vlX6_hums (qX6_hums l g (spk M k x4) (0, M 79) (Nat.zero_le _) (M k 0) x) mlX6_hums (by decide) (by decide) rfl rfl (Nat.le_of_ble_eq_true rfl) dX6_speak_89 rfl ?_
        refine k_ret C rfl dX6_speak_92 ?_
        exact ⟨by simp [pVoice, spk_3, spk_4, spk_5, w32_2], by simp [spkP, pOff, bVoice, spk_3, spk_4, spk_5, w32_2]⟩
      · skip
        refine k_tout C 93 (by have z0 := i_ne w32_0 (k := 0) rfl; have z1 := i_ne w32_1 (k := 1) rfl; have z2 := i_ne w32_2 (k := 2) rfl; omega) dX6_speak_32 (by decide) ?_
        refine k_aload_n C 94 0 rfl rfl dX6_speak_93 rfl ?_
        refine k_aload_n C 95 0 rfl rfl dX6_speak_94 rfl ?_
        refine k_get C 98 flX6_28 78 (by decide) (v := .int ((trC (spk M k x4) (0, M 79)) 78 3)) (ce_78 g _) rfl dX6_speak_95 rfl ?_
        refine k_teq (y := (spk M k x4) 78 3) (trC_o _ _ (by decide)) ?_
        refine k_teq (y := M k 0) (spk_3 M k x4) ?_
        refine k_iload C 100 4  rfl dX6_speak_98 rfl ?_
        refine k_callVE C 103 (As := [.int (M k 0), .int x]) (st := []) 78 (by decide) (ce_78 g _) rfl rfl mwX6_46 vlX6_parts (qX6_parts l g (spk M k x4) (0, M 79) (Nat.zero_le _) (spk_2 M k x4) (M k 0) x) mlX6_parts (by decide) (by decide) rfl rfl (Nat.le_of_ble_eq_true rfl) dX6_speak_100 rfl ?_
        refine k_ret C rfl dX6_speak_103 ?_
        exact ⟨by simp [pVoice, spk_3, spk_4, spk_5, w32_0, w32_1, w32_2], by simp [spkP, pOff, bVoice, spk_3, spk_4, spk_5, w32_0, w32_1, w32_2]⟩
