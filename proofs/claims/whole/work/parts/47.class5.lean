-- the class: feed, text, meaning, fewest, reply, odds, fits, voice, move, judge, check: pure words
def bytC (v : Int64) (i : Nat) : Int32 := ((v.toUInt64 >>> ((nI (8 * i)).toInt64.toUInt64 &&& Int64.toUInt64 63)).toInt64).toInt32.toInt8.toInt32
def feedC (M : Mem) (z : Nat) (v : Int64) : Nat → Mem
  | 0 => M
  | i + 1 => mu (feedC M z v i) 62 (z + i) (vp_nar .byte (bytC v i))
theorem feedC_n (M : Mem) (z : Nat) (v : Int64) {a : Nat} (h : a ≠ 62) : ∀ i, feedC M z v i a = M a
  | 0 => rfl
  | i + 1 => by simp only [feedC]; rw [mu_n _ _ _ h]; exact feedC_n M z v h i
theorem pFst_lt {s c : Nat → Nat} {fr : Nat} : ∀ k i b, pFst s c fr k i = some b → i ≤ b ∧ b < i + k
  | 0, _, _, h => by simp [pFst] at h
  | k + 1, i, b, h => by
    simp only [pFst] at h
    split at h
    · have := Option.some.inj h; omega
    · have := pFst_lt k (i + 1) b h; omega
/-- the line behind the first step, out of the two ways' first places -/
def pFR (x y : Option Nat) (L CR : Nat) : Int32 := match x, y with
  | none, none => -1
  | none, some j => nI (10 * (L + 1) + j)
  | some i, none => nI (10 * (i + 1) + CR)
  | some i, some j => nI (min (10 * (i + 1) + CR) (10 * (L + 1) + j))
def cdR (g : Nat) : Nat → Nat
  | 0 => 0
  | d + 1 => if d + 1 ≤ 1 then d + 1 else if g % (d + 1) = 0 ∧ 72 % (d + 1) = 0 then d + 1 else cdR g d
theorem cdR_1 (g : Nat) {d : Nat} (h : d + 1 ≤ 1) : cdR g (d + 1) = d + 1 := by simp only [cdR]; rw [if_pos h]
theorem cdR_y {g d : Nat} (h1 : g % (d + 1) = 0) (h2 : 72 % (d + 1) = 0) : cdR g (d + 1) = d + 1 := by
  show (if d + 1 ≤ 1 then d + 1 else if g % (d + 1) = 0 ∧ 72 % (d + 1) = 0 then d + 1 else cdR g d) = d + 1
  rw [if_pos (show g % (d + 1) = 0 ∧ 72 % (d + 1) = 0 from ⟨h1, h2⟩)]; exact ite_self _
theorem cdR_n {g d : Nat} (h : ¬ d + 1 ≤ 1) (h1 : ¬ (g % (d + 1) = 0 ∧ 72 % (d + 1) = 0)) : cdR g (d + 1) = cdR g d := by simp only [cdR]; rw [if_neg h, if_neg h1]
theorem cdR_in (g : Nat) : ∀ d, 1 ≤ cdR g (d + 1) ∧ cdR g (d + 1) ≤ d + 1
  | 0 => by rw [cdR_1 g (Nat.le_refl _)]; omega
  | d + 1 => by
    simp only [cdR]
    split
    · omega
    · split
      · omega
      · have := cdR_in g d; simp only [cdR] at this; exact ⟨this.1, by omega⟩
theorem lawOk_of {M M1 : Mem} {j n : Nat} (h : lawOk M j n) (e : Sc lawS M M1) (hj : j < 5) : lawOk M1 j n := by
  refine ⟨(e (47 + j) 1 (by unfold lawS; omega)).trans h.1, h.2.1, fun h0 => ?_⟩
  rw [show M1 (52 + j) = M (52 + j) from funext fun k => e (52 + j) k (by unfold lawS; omega)]
  exact h.2.2 h0
theorem Sc_tr {S : Nat → Nat → Prop} {M M1 M2 : Mem} (h : Sc S M M1) (h2 : Sc S M1 M2) : Sc S M M2 := fun a k q => (h2 a k q).trans (h a k q)
theorem fF_Sc {M M1 : Mem} (h : Sc lawS M M1) {fi : Nat} (hf : fi < 3) {i : Nat} (hi : i < 12) : fF M1 fi i = fF M fi i := funext fun k => h (12 * fi + i) k (by unfold lawS; omega)
theorem pAhead_cg {F G : Nat → Nat → Int32} : ∀ i, (∀ j, j < i → F j = G j) → pAhead F i = pAhead G i
  | 0, _ => rfl
  | i + 1, h => by
    simp only [pAhead]
    rw [h i (by omega), pAhead_cg i (fun j hj => h j (by omega))]
theorem pIsAns_cg {F G : Nat → Nat → Int32} {i : Nat} (h : ∀ j, j ≤ i → F j = G j) : pIsAns F i = pIsAns G i := by
  unfold pIsAns
  rw [h i (Nat.le_refl _), pAhead_cg i (fun j hj => h j (by omega))]
  split
  · split
    · rfl
    · rename_i a ha
      rw [h a (by have := (pAhead_in G i a ha).1; omega)]
  · rfl
theorem spkP_2 (M : Mem) (k : Nat) (x4 v : Int32) : spkP M k x4 v 78 2 = if pOff v x4 (M k 1) then 1 else 0 := by
  unfold spkP
  split
  · exact mu_s _ _ _ _
  · exact spk_2 M k x4
theorem pYM_o {fi : Nat} (M : Mem) (n : Nat) (pat : Int32) {a : Nat} (h : ¬ (12 * fi ≤ a ∧ a < 12 * fi + 12)) (h2 : a ≠ 37 + fi) : pYM M fi n pat a = M a := by
  unfold pYM
  rw [mu_n _ _ _ h2]; exact pYp_out M fi n pat 0 h
theorem pYMs_o {fi : Nat} (M : Mem) (n : Nat) (pat : Int32) {a : Nat} (h : ¬ (12 * fi ≤ a ∧ a < 12 * fi + 12)) (h2 : a ≠ 37 + fi) : ∀ k, pYMs M fi n pat k a = M a
  | 0 => rfl
  | k + 1 => by rw [pYMs, pYM_o _ _ _ h h2, pYMs_o M n pat h h2 k]
theorem hand_f {w : Int32} (hf : (decide ((-1) ≤ w) && decide (w ≤ 5)) = false) (h : (decide (0 ≤ w) && decide (w < 6)) = true) : False := by
  simp only [Bool.and_eq_true, Bool.and_eq_false_iff, decide_eq_true_eq, decide_eq_false_iff_not, Int32.lt_iff_toInt_lt, Int32.le_iff_toInt_le, Int32.reduceToInt] at hf h; omega
theorem hand_n {w : Int32} (hw : (decide ((-1) ≤ w) && decide (w ≤ 5)) = true) (h : ¬ w = -1) : ¬ w < 0 := by
  rw [← Int32.toInt_inj] at h
  simp only [Bool.and_eq_true, decide_eq_true_eq, Int32.lt_iff_toInt_lt, Int32.le_iff_toInt_le, Int32.reduceToInt] at hw h ⊢; omega
theorem hand_t {w : Int32} (hw : (decide ((-1) ≤ w) && decide (w ≤ 5)) = true) (h : ¬ w = -1) (h2 : (decide (0 ≤ w) && decide (w < 6)) = false) : False := by
  have h3 := hand_n hw h
  simp only [Bool.and_eq_true, Bool.and_eq_false_iff, decide_eq_true_eq, decide_eq_false_iff_not, Int32.lt_iff_toInt_lt, Int32.le_iff_toInt_le, Int32.reduceToInt] at hw h2 h3; omega
theorem pk_rem' {i : Nat} (hi : i < 72) : nI i - nI (i / 6) * nI 6 = nI (i % 6) := by
  rw [pk_mul, pk_sub (by omega)]; exact congrArg nI (by omega)
theorem line_nI {i : Nat} (hi : i < 72) : (10 : Int32) * (1 + nI i / 6) + (nI i - nI i / 6 * 6) = nI (10 * (1 + i / 6) + i % 6) := by
  rw [show (6 : Int32) = nI 6 from rfl, pk_div (by omega) (by decide) (by decide), pk_rem' hi, show (10 : Int32) = nI 10 from rfl, show (1 : Int32) = nI 1 from rfl, nI_add, pk_mul, nI_add]
theorem cnd_ans {M M1 : Mem} {km h : Int32} {i k : Nat} (hA : ∀ q, q ≠ 36 → M1 q = M q) (hB : M1 36 0 = km / 10 ∧ M1 36 1 = km - km / 10 * 10 ∧ M1 36 4 = h) (hi : i < 72) (hk : k ≠ 36) : pAns ((mu (mu M1 36 2 ((nI (10 * (1 + i / 6) + i % 6)) / 10)) 36 3 ((nI (10 * (1 + i / 6) + i % 6)) - (nI (10 * (1 + i / 6) + i % 6)) / 10 * 10)) 36) ((mu (mu M1 36 2 ((nI (10 * (1 + i / 6) + i % 6)) / 10)) 36 3 ((nI (10 * (1 + i / 6) + i % 6)) - (nI (10 * (1 + i / 6) + i % 6)) / 10 * 10)) k) = pAns (cnd (km / 10) (km - km / 10 * 10) (nI (1 + i / 6)) (nI (i % 6)) h) (M k) := by
  rw [show nI (10 * (1 + i / 6) + i % 6) / 10 = nI (1 + i / 6) from (pk_div (a := 10 * (1 + i / 6) + i % 6) (d := 10) (by omega) (by decide) (by decide)).trans (congrArg nI (by omega)), show nI (10 * (1 + i / 6) + i % 6) - nI (1 + i / 6) * 10 = nI (i % 6) from by
    rw [show (10 : Int32) = nI 10 from rfl, pk_mul, pk_sub (by omega)]; exact congrArg nI (by omega)]
  refine pAns_congr (fun j hj => ?_) (fun j _ => ?_)
  · unfold cnd
    rcases (show j = 0 ∨ j = 1 ∨ j = 2 ∨ j = 3 ∨ j = 4 by omega) with rfl | rfl | rfl | rfl | rfl
    · simp [mu_at, hB.1]
    · simp [mu_at, hB.2.1]
    · simp [mu_at]
    · simp [mu_at]
    · simp [mu_at, hB.2.2]
  · rw [mu_n _ _ _ hk, mu_n _ _ _ hk, hA k hk]
theorem lawOk_f {M M1 : Mem} {n1 : Nat} (h : lawOk M 0 n1) (e : ∀ a k, ¬ lawS a k → ¬ (71 ≤ a ∧ a < 77) → M1 a k = M a k) : lawOk M1 (2 * 0 + 0) n1 := by
  refine ⟨(e 47 1 (by unfold lawS; omega) (by omega)).trans h.1, h.2.1, fun h0 => ?_⟩
  rw [show M1 (52 + (2 * 0 + 0)) = M 52 from funext fun k => e 52 k (by unfold lawS; omega) (by omega)]
  exact h.2.2 h0
def holC (M : Mem) (k : Nat) (f n : Int32) : Bool := decide (0 ≤ f) && decide (0 ≤ n) && decide (n ≤ M (81 + k) 2) && decide (f ≤ M (81 + k) 2 - n)

set_option maxHeartbeats 4000000 in
set_option maxRecDepth 20000 in
theorem qX9_feed_f (l : Launch) (g : GT) (M : Mem) (v : Int64) (k : Int32) (hf : (decide (1 ≤ k) && decide (k ≤ 8)) = false) : CtrE l g yX9_feed cX9_feed 5 (some .int) 1 [.ref (ga g 90), .long v, .int k] M (-1000000001) (mu M 89 1 (M 89 1 + 1)) := by
  refine ctrI_of (by decide +kernel) (Nat.le_of_ble_eq_true rfl) ?_
  intro pP eE RR sS mI aG bB mE cD C
  refine k_lo (lo' := [(0, .ref (ga g 90)), (1, .long v), (3, .int k)]) rfl ?_
  refine k_iload_n C 1 2 rfl rfl dX9_feed_0 rfl ?_
  refine k_iconst C 2 (v := 1) (by decide) dX9_feed_1 rfl ?_
  refine k_icmp_lt C 11 5 dX9_feed_2 (by decide) rfl (fun c2 => ?_) (fun d2 => ?_)
  · skip
    refine k_aload_n C 12 0 rfl rfl dX9_feed_11 rfl ?_
    refine k_ldc C 14 cwX9_87 dX9_feed_12 rfl ?_
    refine k_callVE C 17 (As := [.int (-1000000001)]) (st := []) 90 (by decide) (ce_90 g _) rfl rfl mwX9_88 vlX9_refuse (qX9_refuse l g M (-1000000001) (k := 1) (by decide) (by decide) (by decide)) mlX9_refuse (by decide) (by decide) rfl rfl (Nat.le_of_ble_eq_true rfl) dX9_feed_14 rfl ?_
    refine k_ret C rfl dX9_feed_17 ?_
    exact ⟨rfl, rfl⟩
  · skip
    refine k_iload_n C 6 2 rfl rfl dX9_feed_5 rfl ?_
    refine k_bipush C 8 (v := 8) (by decide) dX9_feed_6 rfl ?_
    refine k_icmp_le C 18 11 dX9_feed_8 (by decide) rfl (fun c8 => ?_) (fun d8 => ?_)
    · skip
      exact (bz hf (by rw [decide_eq_true (Int32.not_lt.mp d2), decide_eq_true c8]; rfl)).elim
    · skip
      refine k_aload_n C 12 0 rfl rfl dX9_feed_11 rfl ?_
      refine k_ldc C 14 cwX9_87 dX9_feed_12 rfl ?_
      refine k_callVE C 17 (As := [.int (-1000000001)]) (st := []) 90 (by decide) (ce_90 g _) rfl rfl mwX9_88 vlX9_refuse (qX9_refuse l g M (-1000000001) (k := 1) (by decide) (by decide) (by decide)) mlX9_refuse (by decide) (by decide) rfl rfl (Nat.le_of_ble_eq_true rfl) dX9_feed_14 rfl ?_
      refine k_ret C rfl dX9_feed_17 ?_
      exact ⟨rfl, rfl⟩
set_option maxHeartbeats 4000000 in
set_option maxRecDepth 20000 in
theorem qX9_feed_full (l : Launch) (g : GT) (M : Mem) (v : Int64) {k : Nat} (h1 : 1 ≤ k) (h2 : k ≤ 8) {z : Nat} (hz : M 43 3 = nI z) (h60 : z ≤ 60) (hzk : 60 < z + k) : CtrE l g yX9_feed cX9_feed 5 (some .int) 1 [.ref (ga g 90), .long v, .int (nI k)] M (-1000000004) (mu M 89 4 (M 89 4 + 1)) := by
  refine ctrI_of (by decide +kernel) (Nat.le_of_ble_eq_true rfl) ?_
  intro pP eE RR sS mI aG bB mE cD C
  refine k_lo (lo' := [(0, .ref (ga g 90)), (1, .long v), (3, .int (nI k))]) rfl ?_
  refine k_iload_n C 1 2 rfl rfl dX9_feed_0 rfl ?_
  refine k_iconst C 2 (v := 1) (by decide) dX9_feed_1 rfl ?_
  refine k_icmp_lt C 11 5 dX9_feed_2 (by decide) rfl (fun c2 => ?_) (fun d2 => ?_)
  · skip
    have c2 := (nI_ltI (by omega) (by omega)).mp (show nI k < nI 1 from c2)
    exact absurd c2 (by omega)
  · skip
    have d2 := mt (nI_ltI (by omega) (by omega)).mpr (show ¬ (nI k < nI 1) from d2)
    refine k_iload_n C 6 2 rfl rfl dX9_feed_5 rfl ?_
    refine k_bipush C 8 (v := 8) (by decide) dX9_feed_6 rfl ?_
    refine k_icmp_le C 18 11 dX9_feed_8 (by decide) rfl (fun c8 => ?_) (fun d8 => ?_)
    · skip
      have c8 := (nI_leI (by omega) (by omega)).mp (show nI k ≤ nI 8 from c8)
      refine k_aload_n C 19 0 rfl rfl dX9_feed_18 rfl ?_
      refine k_get C 22 flX9_12 90 (by decide) (v := .ref (ga g 43)) (ce_90 g _) rfl dX9_feed_19 rfl ?_
      refine k_get C 25 flX9_171 43 (by decide) (v := .int ((M) 43 3)) (ce_wld g _ (show 0 < 2 by decide)) rfl dX9_feed_22 rfl ?_
      refine k_teq (y := nI z) hz ?_
      refine k_iload_n C 26 2 rfl rfl dX9_feed_25 rfl ?_
      refine k_iadd C 27 dX9_feed_26 rfl ?_
      refine k_teq (nI_add z k) ?_
      refine k_bipush C 29 (v := 60) (by decide) dX9_feed_27 rfl ?_
      refine k_icmp_le C 39 32 dX9_feed_29 (by decide) rfl (fun c29 => ?_) (fun d29 => ?_)
      · skip
        have c29 := (nI_leI (by omega) (by omega)).mp (show nI (z + k) ≤ nI 60 from c29)
        exact absurd c29 (by omega)
      · skip
        have d29 := mt (nI_leI (by omega) (by omega)).mpr (show ¬ (nI (z + k) ≤ nI 60) from d29)
        refine k_aload_n C 33 0 rfl rfl dX9_feed_32 rfl ?_
        refine k_ldc C 35 cwX9_99 dX9_feed_33 rfl ?_
        refine k_callVE C 38 (As := [.int (-1000000004)]) (st := []) 90 (by decide) (ce_90 g _) rfl rfl mwX9_88 vlX9_refuse (qX9_refuse l g M (-1000000004) (k := 4) (by decide) (by decide) (by decide)) mlX9_refuse (by decide) (by decide) rfl rfl (Nat.le_of_ble_eq_true rfl) dX9_feed_35 rfl ?_
        refine k_ret C rfl dX9_feed_38 ?_
        exact ⟨rfl, rfl⟩
    · skip
      have d8 := mt (nI_leI (by omega) (by omega)).mpr (show ¬ (nI k ≤ nI 8) from d8)
      exact absurd d8 (by omega)
set_option maxHeartbeats 4000000 in
set_option maxRecDepth 20000 in
theorem qX9_feed_t (l : Launch) (g : GT) (M : Mem) (v : Int64) {k : Nat} (h1 : 1 ≤ k) (h2 : k ≤ 8) {z : Nat} (hz : M 43 3 = nI z) (h60 : z ≤ 60) (hzk : z + k ≤ 60) : CtrE l g yX9_feed cX9_feed 5 (some .int) 1 [.ref (ga g 90), .long v, .int (nI k)] M (nI (z + k)) (mu (feedC M z v k) 43 3 (nI (z + k))) := by
  refine ctrI_of (by decide +kernel) (Nat.le_of_ble_eq_true rfl) ?_
  intro pP eE RR sS mI aG bB mE cD C
  refine k_lo (lo' := [(0, .ref (ga g 90)), (1, .long v), (3, .int (nI k))]) rfl ?_
  refine k_iload_n C 1 2 rfl rfl dX9_feed_0 rfl ?_
  refine k_iconst C 2 (v := 1) (by decide) dX9_feed_1 rfl ?_
  refine k_icmp_lt C 11 5 dX9_feed_2 (by decide) rfl (fun c2 => ?_) (fun d2 => ?_)
  · skip
    have c2 := (nI_ltI (by omega) (by omega)).mp (show nI k < nI 1 from c2)
    exact absurd c2 (by omega)
  · skip
    have d2 := mt (nI_ltI (by omega) (by omega)).mpr (show ¬ (nI k < nI 1) from d2)
    refine k_iload_n C 6 2 rfl rfl dX9_feed_5 rfl ?_
    refine k_bipush C 8 (v := 8) (by decide) dX9_feed_6 rfl ?_
    refine k_icmp_le C 18 11 dX9_feed_8 (by decide) rfl (fun c8 => ?_) (fun d8 => ?_)
    · skip
      have c8 := (nI_leI (by omega) (by omega)).mp (show nI k ≤ nI 8 from c8)
      refine k_aload_n C 19 0 rfl rfl dX9_feed_18 rfl ?_
      refine k_get C 22 flX9_12 90 (by decide) (v := .ref (ga g 43)) (ce_90 g _) rfl dX9_feed_19 rfl ?_
      refine k_get C 25 flX9_171 43 (by decide) (v := .int ((M) 43 3)) (ce_wld g _ (show 0 < 2 by decide)) rfl dX9_feed_22 rfl ?_
      refine k_teq (y := nI z) hz ?_
      refine k_iload_n C 26 2 rfl rfl dX9_feed_25 rfl ?_
      refine k_iadd C 27 dX9_feed_26 rfl ?_
      refine k_teq (nI_add z k) ?_
      refine k_bipush C 29 (v := 60) (by decide) dX9_feed_27 rfl ?_
      refine k_icmp_le C 39 32 dX9_feed_29 (by decide) rfl (fun c29 => ?_) (fun d29 => ?_)
      · skip
        have c29 := (nI_leI (by omega) (by omega)).mp (show nI (z + k) ≤ nI 60 from c29)
        refine k_iconst C 40 (v := 0) (by decide) dX9_feed_39 rfl ?_
        refine k_istore C 42 [(4, .int 0), (0, .ref (ga g 90)), (1, .long v), (3, .int (nI k))]  (by decide) rfl dX9_feed_40 rfl ?_
        refine k_sub [(0, .ref (ga g 90)), (1, .long v), (3, .int (nI k)), (4, .int 0)] [1, 2, 3, 0] rfl ?_
        refine k_all (M' := feedC M z v 0) (lo' := [(0, .ref (ga g 90)), (1, .long v), (3, .int (nI k)), (4, .int (nI 0))]) (st' := []) (by rfl) (by rfl) rfl ?_
        refine k_loop (σ := Nat) (fun (i : Nat) => (i ≤ k)) (fun (i : Nat) => k - i) (fun (i : Nat) => feedC M z v i) (fun (i : Nat) => [(0, .ref (ga g 90)), (1, .long v), (3, .int (nI k)), (4, .int (nI i))]) 0 (show (0 ≤ k) from by exact Nat.zero_le _) ?_
        rintro i hI ih
        have hI : (i ≤ k) := hI
        have hi := hI
        show KW pP l eE RR sS mI aG bB mE cD g 5 _ (feedC M z v i) 42 [(0, .ref (ga g 90)), (1, .long v), (3, .int (nI k)), (4, .int (nI i))] []
        refine k_iload C 44 3  rfl dX9_feed_42 rfl ?_
        refine k_iload_n C 45 2 rfl rfl dX9_feed_44 rfl ?_
        refine k_icmp_ge C 81 48 dX9_feed_45 (by decide) rfl (fun c45 => ?_) (fun d45 => ?_)
        · skip
          have c45 := (nI_leI (by omega) (by omega)).mp (show nI k ≤ nI i from c45)
          refine k_aload_n C 82 0 rfl rfl dX9_feed_81 rfl ?_
          refine k_get C 85 flX9_12 90 (by decide) (v := .ref (ga g 43)) (ce_90 g _) rfl dX9_feed_82 rfl ?_
          refine k_dup C 86 rfl dX9_feed_85 rfl ?_
          refine k_get C 89 flX9_171 43 (by decide) (v := .int ((feedC M z v i) 43 3)) (ce_wld g _ (show 0 < 2 by decide)) rfl dX9_feed_86 rfl ?_
          refine k_teq (y := nI z) (by rw [feedC_n _ _ _ (by decide)]; exact hz) ?_
          refine k_iload_n C 90 2 rfl rfl dX9_feed_89 rfl ?_
          refine k_iadd C 91 dX9_feed_90 rfl ?_
          refine k_teq (nI_add z k) ?_
          refine k_put C 94 flX9_171 plX8 43 (by decide) (ce_wld g _ (show 0 < 2 by decide)) (ce_wld g _ (show 0 < 2 by decide)) (Nat.le_of_ble_eq_true rfl) rfl rfl rfl dX9_feed_91 rfl ?_
          refine k_aload_n C 95 0 rfl rfl dX9_feed_94 rfl ?_
          refine k_get C 98 flX9_12 90 (by decide) (v := .ref (ga g 43)) (ce_90 g _) rfl dX9_feed_95 rfl ?_
          refine k_get C 101 flX9_171 43 (by decide) (v := .int ((mu (feedC M z v i) 43 3 (nI (z + k))) 43 3)) (ce_wld g _ (show 0 < 2 by decide)) rfl dX9_feed_98 rfl ?_
          refine k_teq (show (mu (feedC M z v i) 43 3 (nI (z + k))) 43 3 = nI (z + k) by simp [mu_at]) ?_
          refine k_ret C rfl dX9_feed_101 ?_
          have e : i = k := by omega
          subst e
          exact ⟨rfl, rfl⟩
        · skip
          have d45 := mt (nI_leI (by omega) (by omega)).mpr (show ¬ (nI k ≤ nI i) from d45)
          refine k_aload_n C 49 0 rfl rfl dX9_feed_48 rfl ?_
          refine k_get C 52 flX9_12 90 (by decide) (v := .ref (ga g 43)) (ce_90 g _) rfl dX9_feed_49 rfl ?_
          refine k_get C 55 flX9_174 43 (by decide) (v := .ref (ga g 62)) (ce_wld g _ (show 0 < 2 by decide)) rfl dX9_feed_52 rfl ?_
          refine k_aload_n C 56 0 rfl rfl dX9_feed_55 rfl ?_
          refine k_get C 59 flX9_12 90 (by decide) (v := .ref (ga g 43)) (ce_90 g _) rfl dX9_feed_56 rfl ?_
          refine k_get C 62 flX9_171 43 (by decide) (v := .int ((feedC M z v i) 43 3)) (ce_wld g _ (show 0 < 2 by decide)) rfl dX9_feed_59 rfl ?_
          refine k_teq (y := nI z) (by rw [feedC_n _ _ _ (by decide)]; exact hz) ?_
          refine k_iload C 64 3  rfl dX9_feed_62 rfl ?_
          refine k_iadd C 65 dX9_feed_64 rfl ?_
          refine k_teq (nI_add z i) ?_
          refine k_lload_n C 66 1 rfl rfl dX9_feed_65 rfl ?_
          refine k_bipush C 68 (v := 8) (by decide) dX9_feed_66 rfl ?_
          refine k_iload C 70 3  rfl dX9_feed_68 rfl ?_
          refine k_imul C 71 dX9_feed_70 rfl ?_
          refine k_teq (pk_mul 8 i) ?_
          refine k_lushr C 72 dX9_feed_71 rfl ?_
          refine k_l2i C 73 dX9_feed_72 rfl ?_
          refine k_i2b C 74 dX9_feed_73 rfl ?_
          refine k_bast C 75 62 (z + i) (by decide) (ce_tp g (show 0 < 2 by decide)) (by decide) rfl (by omega) dX9_feed_74 rfl ?_
          refine k_iinc C 78 (nI (i + 1)) 3 [(4, .int (nI (i + 1))), (0, .ref (ga g 90)), (1, .long v), (3, .int (nI k))] rfl (iinc_p i) (by decide) rfl dX9_feed_75 rfl ?_
          refine k_goto C 42 dX9_feed_78 (by decide) ?_
          refine k_sub [(0, .ref (ga g 90)), (1, .long v), (3, .int (nI k)), (4, .int (nI (i + 1)))] [1, 2, 3, 0] rfl ?_
          refine k_all (M' := feedC M z v (i + 1)) (lo' := [(0, .ref (ga g 90)), (1, .long v), (3, .int (nI k)), (4, .int (nI (i + 1)))]) (st' := []) (by rfl) (by rfl) rfl ?_
          exact ih (i + 1) (show ((i + 1) ≤ k) from by omega) (by show k - (i + 1) < _; omega)
      · skip
        have d29 := mt (nI_leI (by omega) (by omega)).mpr (show ¬ (nI (z + k) ≤ nI 60) from d29)
        exact absurd d29 (by omega)
    · skip
      have d8 := mt (nI_leI (by omega) (by omega)).mpr (show ¬ (nI k ≤ nI 8) from d8)
      exact absurd d8 (by omega)
set_option maxHeartbeats 4000000 in
set_option maxRecDepth 20000 in
theorem qX9_text_f (l : Launch) (g : GT) (M : Mem) (u : Int32) (hf : (decide (0 ≤ u) && decide (u < 2)) = false) : CtrE l g yX9_text cX9_text 3 (some .int) 51 [.ref (ga g 90), .int u] M (-1000000001) (mu M 89 1 (M 89 1 + 1)) := by
  refine ctrI_of (by decide +kernel) (Nat.le_of_ble_eq_true rfl) ?_
  intro pP eE RR sS mI aG bB mE cD C
  refine k_lo (lo' := [(0, .ref (ga g 90)), (1, .int u)]) rfl ?_
  refine k_iload_n C 1 1 rfl rfl dX9_text_0 rfl ?_
  refine k_callSE C 4 (As := [.int u]) (st := []) mwX9_178 skX9_isUse (qX9_isUse l g M u) mlX9_isUse (by decide) (by decide) rfl rfl (Nat.le_of_ble_eq_true rfl) dX9_text_1 rfl ?_
  refine k_if_neB C 14 7 dX9_text_4 (by decide) rfl (fun c4 => ?_) (fun d4 => ?_)
  · skip
    exact (bz hf c4).elim
  · skip
    refine k_aload_n C 8 0 rfl rfl dX9_text_7 rfl ?_
    refine k_ldc C 10 cwX9_87 dX9_text_8 rfl ?_
    refine k_callVE C 13 (As := [.int (-1000000001)]) (st := []) 90 (by decide) (ce_90 g _) rfl rfl mwX9_88 vlX9_refuse (qX9_refuse l g M (-1000000001) (k := 1) (by decide) (by decide) (by decide)) mlX9_refuse (by decide) (by decide) rfl rfl (Nat.le_of_ble_eq_true rfl) dX9_text_10 rfl ?_
    refine k_ret C rfl dX9_text_13 ?_
    exact ⟨rfl, rfl⟩
set_option maxHeartbeats 4000000 in
set_option maxRecDepth 20000 in
theorem qX9_text_bad (l : Launch) (g : GT) (M : Mem) {u : Nat} (hu : u < 2) {z : Nat} (hz : M 43 3 = nI z) (h60 : z ≤ 60) (hb : ((pParse (sgC (M 62) z) u (M 56)).1 && decide ((pParse (sgC (M 62) z) u (M 56)).2.1 = z)) = false) : CtrE l g yX9_text cX9_text 3 (some .int) 51 [.ref (ga g 90), .int (nI u)] M ((-10) - nI (pParse (sgC (M 62) z) u (M 56)).2.1) (mu (rdM (rd0 M z u) (pParse (sgC (M 62) z) u (M 56)).2) 43 3 0) := by
  refine ctrI_of (by decide +kernel) (Nat.le_of_ble_eq_true rfl) ?_
  intro pP eE RR sS mI aG bB mE cD C
  refine k_lo (lo' := [(0, .ref (ga g 90)), (1, .int (nI u))]) rfl ?_
  refine k_iload_n C 1 1 rfl rfl dX9_text_0 rfl ?_
  refine k_callSE C 4 (As := [.int (nI u)]) (st := []) mwX9_178 skX9_isUse (qX9_isUse l g M (nI u)) mlX9_isUse (by decide) (by decide) rfl rfl (Nat.le_of_ble_eq_true rfl) dX9_text_1 rfl ?_
  refine k_if_neB C 14 7 dX9_text_4 (by decide) rfl (fun c4 => ?_) (fun d4 => ?_)
  · skip
    refine k_aload_n C 15 0 rfl rfl dX9_text_14 rfl ?_
    refine k_get C 18 flX9_55 90 (by decide) (v := .ref (ga g 77)) (ce_90 g _) rfl dX9_text_15 rfl ?_
    refine k_aload_n C 19 0 rfl rfl dX9_text_18 rfl ?_
    refine k_get C 22 flX9_12 90 (by decide) (v := .ref (ga g 43)) (ce_90 g _) rfl dX9_text_19 rfl ?_
    refine k_get C 25 flX9_174 43 (by decide) (v := .ref (ga g 62)) (ce_wld g _ (show 0 < 2 by decide)) rfl dX9_text_22 rfl ?_
    refine k_aload_n C 26 0 rfl rfl dX9_text_25 rfl ?_
    refine k_get C 29 flX9_12 90 (by decide) (v := .ref (ga g 43)) (ce_90 g _) rfl dX9_text_26 rfl ?_
    refine k_get C 32 flX9_171 43 (by decide) (v := .int ((M) 43 3)) (ce_wld g _ (show 0 < 2 by decide)) rfl dX9_text_29 rfl ?_
    refine k_teq (y := nI z) hz ?_
    refine k_iload_n C 33 1 rfl rfl dX9_text_32 rfl ?_
    refine k_callVE C 36 (As := [.ref (ga g 62), .int (nI z), .int (nI u)]) (st := []) 77 (by decide) (ce_77 g _) rfl rfl mwX9_181 vlX7_read (qX7_read l g M (n := z) (u := u) h60 hu) mlX7_read (by decide) (by decide) rfl rfl (Nat.le_of_ble_eq_true rfl) dX9_text_33 rfl ?_
    refine k_istore_n C 37 [(2, .int (b2i ((pParse (sgC (M 62) z) u (M 56)).1 && decide ((pParse (sgC (M 62) z) u (M 56)).2.1 = z)))), (0, .ref (ga g 90)), (1, .int (nI u))] rfl (by decide) rfl dX9_text_36 rfl ?_
    refine k_aload_n C 38 1 rfl rfl dX9_text_37 rfl ?_
    refine k_get C 41 flX9_12 90 (by decide) (v := .ref (ga g 43)) (ce_90 g _) rfl dX9_text_38 rfl ?_
    refine k_iconst C 42 (v := 0) (by decide) dX9_text_41 rfl ?_
    refine k_put C 45 flX9_171 plX8 43 (by decide) (ce_wld g _ (show 0 < 2 by decide)) (ce_wld g _ (show 0 < 2 by decide)) (Nat.le_of_ble_eq_true rfl) rfl rfl rfl dX9_text_42 rfl ?_
    refine k_iload_n C 46 0 rfl rfl dX9_text_45 rfl ?_
    refine k_if_neB C 60 49 dX9_text_46 (by decide) rfl (fun c46 => ?_) (fun d46 => ?_)
    · skip
      exact (bz hb c46).elim
    · skip
      refine k_bipush C 51 (v := (-10)) (by decide) dX9_text_49 rfl ?_
      refine k_aload_n C 52 1 rfl rfl dX9_text_51 rfl ?_
      refine k_get C 55 flX9_55 90 (by decide) (v := .ref (ga g 77)) (ce_90 g _) rfl dX9_text_52 rfl ?_
      refine k_get C 58 flX9_185 77 (by decide) (v := .int ((mu (rdM (rd0 M z u) (pParse (sgC (M 62) z) u (M 56)).2) 43 3 0) 77 1)) (ce_77 g _) rfl dX9_text_55 rfl ?_
      refine k_teq (show (mu (rdM (rd0 M z u) (pParse (sgC (M 62) z) u (M 56)).2) 43 3 0) 77 1 = (rdM (rd0 M z u) (pParse (sgC (M 62) z) u (M 56)).2) 77 1 by simp [mu_at]) ?_
      refine k_isub C 59 dX9_text_58 rfl ?_
      refine k_ret C rfl dX9_text_59 ?_
      exact ⟨rfl, rfl⟩
  · skip
    exact (bz d4 (rg_lt (b := 2) hu (by decide))).elim
set_option maxHeartbeats 4000000 in
set_option maxRecDepth 20000 in
theorem qX9_text_good (l : Launch) (g : GT) (M : Mem) {u : Nat} (hu : u < 2) {z : Nat} (hz : M 43 3 = nI z) (h60 : z ≤ 60) (hb : ((pParse (sgC (M 62) z) u (M 56)).1 && decide ((pParse (sgC (M 62) z) u (M 56)).2.1 = z)) = true) (hn60 : (pParse (sgC (M 62) z) u (M 56)).2.2.1 ≤ 60) : CtrE l g yX9_text cX9_text 3 (some .int) 51 [.ref (ga g 90), .int (nI u)] M 1 (mu (mrow (mu (rdM (rd0 M z u) (pParse (sgC (M 62) z) u (M 56)).2) 43 3 0) (52 + u) (va_cpy ((mu (rdM (rd0 M z u) (pParse (sgC (M 62) z) u (M 56)).2) 43 3 0) 56) ((mu (rdM (rd0 M z u) (pParse (sgC (M 62) z) u (M 56)).2) 43 3 0) (52 + u)) 0 0 (pParse (sgC (M 62) z) u (M 56)).2.2.1)) (47 + u) 1 (nI (pParse (sgC (M 62) z) u (M 56)).2.2.1)) := by
  refine ctrI_of (by decide +kernel) (Nat.le_of_ble_eq_true rfl) ?_
  intro pP eE RR sS mI aG bB mE cD C
  refine k_lo (lo' := [(0, .ref (ga g 90)), (1, .int (nI u))]) rfl ?_
  refine k_iload_n C 1 1 rfl rfl dX9_text_0 rfl ?_
  refine k_callSE C 4 (As := [.int (nI u)]) (st := []) mwX9_178 skX9_isUse (qX9_isUse l g M (nI u)) mlX9_isUse (by decide) (by decide) rfl rfl (Nat.le_of_ble_eq_true rfl) dX9_text_1 rfl ?_
  refine k_if_neB C 14 7 dX9_text_4 (by decide) rfl (fun c4 => ?_) (fun d4 => ?_)
  · skip
    refine k_aload_n C 15 0 rfl rfl dX9_text_14 rfl ?_
    refine k_get C 18 flX9_55 90 (by decide) (v := .ref (ga g 77)) (ce_90 g _) rfl dX9_text_15 rfl ?_
    refine k_aload_n C 19 0 rfl rfl dX9_text_18 rfl ?_
    refine k_get C 22 flX9_12 90 (by decide) (v := .ref (ga g 43)) (ce_90 g _) rfl dX9_text_19 rfl ?_
    refine k_get C 25 flX9_174 43 (by decide) (v := .ref (ga g 62)) (ce_wld g _ (show 0 < 2 by decide)) rfl dX9_text_22 rfl ?_
    refine k_aload_n C 26 0 rfl rfl dX9_text_25 rfl ?_
    refine k_get C 29 flX9_12 90 (by decide) (v := .ref (ga g 43)) (ce_90 g _) rfl dX9_text_26 rfl ?_
    refine k_get C 32 flX9_171 43 (by decide) (v := .int ((M) 43 3)) (ce_wld g _ (show 0 < 2 by decide)) rfl dX9_text_29 rfl ?_
    refine k_teq (y := nI z) hz ?_
    refine k_iload_n C 33 1 rfl rfl dX9_text_32 rfl ?_
    refine k_callVE C 36 (As := [.ref (ga g 62), .int (nI z), .int (nI u)]) (st := []) 77 (by decide) (ce_77 g _) rfl rfl mwX9_181 vlX7_read (qX7_read l g M (n := z) (u := u) h60 hu) mlX7_read (by decide) (by decide) rfl rfl (Nat.le_of_ble_eq_true rfl) dX9_text_33 rfl ?_
    refine k_istore_n C 37 [(2, .int (b2i ((pParse (sgC (M 62) z) u (M 56)).1 && decide ((pParse (sgC (M 62) z) u (M 56)).2.1 = z)))), (0, .ref (ga g 90)), (1, .int (nI u))] rfl (by decide) rfl dX9_text_36 rfl ?_
    refine k_aload_n C 38 1 rfl rfl dX9_text_37 rfl ?_
    refine k_get C 41 flX9_12 90 (by decide) (v := .ref (ga g 43)) (ce_90 g _) rfl dX9_text_38 rfl ?_
    refine k_iconst C 42 (v := 0) (by decide) dX9_text_41 rfl ?_
    refine k_put C 45 flX9_171 plX8 43 (by decide) (ce_wld g _ (show 0 < 2 by decide)) (ce_wld g _ (show 0 < 2 by decide)) (Nat.le_of_ble_eq_true rfl) rfl rfl rfl dX9_text_42 rfl ?_
    refine k_iload_n C 46 0 rfl rfl dX9_text_45 rfl ?_
    refine k_if_neB C 60 49 dX9_text_46 (by decide) rfl (fun c46 => ?_) (fun d46 => ?_)
    · skip
      refine k_aload_n C 61 1 rfl rfl dX9_text_60 rfl ?_
      refine k_get C 64 flX9_12 90 (by decide) (v := .ref (ga g 43)) (ce_90 g _) rfl dX9_text_61 rfl ?_
      refine k_get C 67 flX9_188 43 (by decide) (v := .ref (ga g 45)) (ce_wld g _ (show 0 < 2 by decide)) rfl dX9_text_64 rfl ?_
      refine k_iload_n C 68 2 rfl rfl dX9_text_67 rfl ?_
      refine k_aald C 69 45 u 4 (by decide) (ce_la g _ (show 0 < 2 by decide)) rfl (by decide) rfl (by omega) dX9_text_68 rfl ?_
      refine k_st (st' := [.ref (ga g (47 + u))]) (by simp only [Nat.mul_zero, Nat.zero_add]) ?_
      refine k_aload_n C 70 1 rfl rfl dX9_text_69 rfl ?_
      refine k_get C 73 flX9_55 90 (by decide) (v := .ref (ga g 77)) (ce_90 g _) rfl dX9_text_70 rfl ?_
      refine k_get C 76 flX9_192 77 (by decide) (v := .ref (ga g 51)) (ce_77 g _) rfl dX9_text_73 rfl ?_
      refine k_callVU C 79 (As := [.ref (ga g 51)]) (st := []) (47 + u) (lt105_law (show u < 5 by omega)) (ce_law g _ (show u < 5 by omega)) rfl rfl mwX9_196 vlX3_copyFrom (qX3_copyFrom l g (mu (rdM (rd0 M z u) (pParse (sgC (M 62) z) u (M 56)).2) 43 3 0) (j := u) (j2 := 4) (by omega) (by decide) (n := (pParse (sgC (M 62) z) u (M 56)).2.2.1) (by rw [mu_n _ _ _ (by decide)]; exact rdM_z _ _) hn60) mlX3_copyFrom (by decide) (by decide) rfl rfl (Nat.le_of_ble_eq_true rfl) dX9_text_76 rfl ?_
      refine k_iconst C 80 (v := 1) (by decide) dX9_text_79 rfl ?_
      refine k_ret C rfl dX9_text_80 ?_
      exact ⟨rfl, rfl⟩
    · skip
      exact (bz d46 hb).elim
  · skip
    exact (bz d4 (rg_lt (b := 2) hu (by decide))).elim
set_option maxHeartbeats 4000000 in
set_option maxRecDepth 20000 in
theorem qX9_meaning_f (l : Launch) (g : GT) (M : Mem) (w : Int32) (hf : (decide ((-1) ≤ w) && decide (w ≤ 5)) = false) : CtrE l g yX9_meaning cX9_meaning 5 (some .int) 5 [.ref (ga g 90), .int w] M (-1000000001) (mu M 89 1 (M 89 1 + 1)) := by
  refine ctrI_of (by decide +kernel) (Nat.le_of_ble_eq_true rfl) ?_
  intro pP eE RR sS mI aG bB mE cD C
  refine k_lo (lo' := [(0, .ref (ga g 90)), (1, .int w)]) rfl ?_
  refine k_iload_n C 1 1 rfl rfl dX9_meaning_0 rfl ?_
  refine k_iconst C 2 (v := (-1)) (by decide) dX9_meaning_1 rfl ?_
  refine k_icmp_eq C 19 5 dX9_meaning_2 (by decide) rfl (fun c2 => ?_) (fun d2 => ?_)
  · skip
    subst c2; exact absurd hf (by decide)
  · skip
    refine k_iload_n C 6 1 rfl rfl dX9_meaning_5 rfl ?_
    refine k_callSE C 9 (As := [.int w]) (st := []) mwX9_84 skX9_isHand (qX9_isHand l g M w) mlX9_isHand (by decide) (by decide) rfl rfl (Nat.le_of_ble_eq_true rfl) dX9_meaning_6 rfl ?_
    refine k_if_neB C 19 12 dX9_meaning_9 (by decide) rfl (fun c9 => ?_) (fun d9 => ?_)
    · skip
      exact (hand_f hf c9).elim
    · skip
      refine k_aload_n C 13 0 rfl rfl dX9_meaning_12 rfl ?_
      refine k_ldc C 15 cwX9_87 dX9_meaning_13 rfl ?_
      refine k_callVE C 18 (As := [.int (-1000000001)]) (st := []) 90 (by decide) (ce_90 g _) rfl rfl mwX9_88 vlX9_refuse (qX9_refuse l g M (-1000000001) (k := 1) (by decide) (by decide) (by decide)) mlX9_refuse (by decide) (by decide) rfl rfl (Nat.le_of_ble_eq_true rfl) dX9_meaning_15 rfl ?_
      refine k_ret C rfl dX9_meaning_18 ?_
      exact ⟨rfl, rfl⟩
set_option maxHeartbeats 4000000 in
set_option maxRecDepth 20000 in
theorem qX9_meaning_t (l : Launch) (g : GT) (M : Mem) {n : Nat} (hn : M 37 1 = nI n) (h12 : n ≤ 12) (w : Int32) (hw : (decide ((-1) ≤ w) && decide (w ≤ 5)) = true) {n1 : Nat} (hL : lawOk M 1 n1) : CtrI l g yX9_meaning cX9_meaning 5 (some .int) 5 [.ref (ga g 90), .int w] M (fun r M1 => r = pMean (fF M 0) n1 (M 53) w n ∧ Sc lawS M M1) := by
  refine ctrI_of (by decide +kernel) (Nat.le_of_ble_eq_true rfl) ?_
  intro pP eE RR sS mI aG bB mE cD C
  refine k_lo (lo' := [(0, .ref (ga g 90)), (1, .int w)]) rfl ?_
  refine k_iload_n C 1 1 rfl rfl dX9_meaning_0 rfl ?_
  refine k_iconst C 2 (v := (-1)) (by decide) dX9_meaning_1 rfl ?_
  refine k_icmp_eq C 19 5 dX9_meaning_2 (by decide) rfl (fun c2 => ?_) (fun d2 => ?_)
  · skip
    refine k_iconst C 20 (v := 0) (by decide) dX9_meaning_19 rfl ?_
    refine k_istore_n C 21 [(2, .int 0), (0, .ref (ga g 90)), (1, .int w)] rfl (by decide) rfl dX9_meaning_20 rfl ?_
    refine k_iconst C 22 (v := 0) (by decide) dX9_meaning_21 rfl ?_
    refine k_istore_n C 23 [(3, .int 0), (2, .int 0), (0, .ref (ga g 90)), (1, .int w)] rfl (by decide) rfl dX9_meaning_22 rfl ?_
    refine k_sub [(0, .ref (ga g 90)), (1, .int w), (2, .int 0), (3, .int 0)] [2, 3, 1, 0] rfl ?_
    refine k_all (M' := M) (lo' := [(0, .ref (ga g 90)), (1, .int w), (2, .int (pMean (fF M 0) n1 (M 53) w 0)), (3, .int (nI 0))]) (st' := []) (by rfl) (by rfl) rfl ?_
    refine k_loop (σ := Nat × Mem) (fun (v : Nat × Mem) => match v with | (i, M1) => (i ≤ n) ∧ (Sc lawS M M1)) (fun (v : Nat × Mem) => match v with | (i, M1) => n - i) (fun (v : Nat × Mem) => match v with | (i, M1) => M1) (fun (v : Nat × Mem) => match v with | (i, M1) => [(0, .ref (ga g 90)), (1, .int w), (2, .int (pMean (fF M 0) n1 (M 53) w i)), (3, .int (nI i))]) (0, M) (show (0 ≤ n) ∧ (Sc lawS M M) from by exact ⟨Nat.zero_le _, fun _ _ _ => rfl⟩) ?_
    rintro ⟨i, M1⟩ hI ih
    have hI : (i ≤ n) ∧ (Sc lawS M M1) := hI
    obtain ⟨hi, hA⟩ := hI
    show KW pP l eE RR sS mI aG bB mE cD g 5 _ (M1) 23 [(0, .ref (ga g 90)), (1, .int w), (2, .int (pMean (fF M 0) n1 (M 53) w i)), (3, .int (nI i))] []
    refine k_iload_n C 24 3 rfl rfl dX9_meaning_23 rfl ?_
    refine k_aload_n C 25 0 rfl rfl dX9_meaning_24 rfl ?_
    refine k_get C 28 flX9_12 90 (by decide) (v := .ref (ga g 43)) (ce_90 g _) rfl dX9_meaning_25 rfl ?_
    refine k_get C 31 flX9_92 43 (by decide) (v := .ref (ga g 37)) (ce_wld g _ (show 0 < 2 by decide)) rfl dX9_meaning_28 rfl ?_
    refine k_get C 34 flX9_95 37 (by decide) (v := .int ((M1) 37 1)) (ce_fld g _ (show 0 < 3 by decide)) rfl dX9_meaning_31 rfl ?_
    refine k_teq (y := nI n) ((hA 37 1 (by unfold lawS; omega)).trans hn) ?_
    refine k_icmp_ge C 97 37 dX9_meaning_34 (by decide) rfl (fun c34 => ?_) (fun d34 => ?_)
    · skip
      have c34 := (nI_leI (by omega) (by omega)).mp (show nI n ≤ nI i from c34)
      refine k_iload_n C 98 2 rfl rfl dX9_meaning_97 rfl ?_
      refine k_ret C rfl dX9_meaning_98 ?_
      have e : i = n := by omega
      subst e
      exact ⟨rfl, hA⟩
    · skip
      have d34 := mt (nI_leI (by omega) (by omega)).mpr (show ¬ (nI n ≤ nI i) from d34)
      refine k_aload_n C 38 0 rfl rfl dX9_meaning_37 rfl ?_
      refine k_get C 41 flX9_12 90 (by decide) (v := .ref (ga g 43)) (ce_90 g _) rfl dX9_meaning_38 rfl ?_
      refine k_get C 44 flX9_92 43 (by decide) (v := .ref (ga g 37)) (ce_wld g _ (show 0 < 2 by decide)) rfl dX9_meaning_41 rfl ?_
      refine k_get C 47 flX9_107 37 (by decide) (v := .ref (ga g 40)) (ce_fld g _ (show 0 < 3 by decide)) rfl dX9_meaning_44 rfl ?_
      refine k_iload_n C 48 3 rfl rfl dX9_meaning_47 rfl ?_
      refine k_aald C 49 40 i 3 (by decide) (ce_fa g _ (show 0 < 3 by decide)) rfl (by decide) rfl (by omega) dX9_meaning_48 rfl ?_
      refine k_st (st' := [.ref (ga g i)]) (by simp only [Nat.mul_zero, Nat.zero_add]) ?_
      refine k_astore C 51 [(4, .ref (ga g i)), (0, .ref (ga g 90)), (1, .int w), (2, .int (pMean (fF M 0) n1 (M 53) w i)), (3, .int (nI i))]  (by decide) rfl dX9_meaning_49 rfl ?_
      refine k_iload_n C 52 2 rfl rfl dX9_meaning_51 rfl ?_
      refine k_iconst C 53 (v := (-1)) (by decide) dX9_meaning_52 rfl ?_
      refine k_icmp_eq C 65 56 dX9_meaning_53 (by decide) rfl (fun c53 => ?_) (fun d53 => ?_)
      · skip
        have hI0 : pIsAns (fF M 0) i = pIsAns (fF M1 0) i := (pIsAns_cg (fun j hj => fF_Sc hA (by decide) (by omega))).symm
        refine k_aload_n C 66 1 rfl rfl dX9_meaning_65 rfl ?_
        refine k_get C 69 flX9_12 90 (by decide) (v := .ref (ga g 43)) (ce_90 g _) rfl dX9_meaning_66 rfl ?_
        refine k_get C 72 flX9_92 43 (by decide) (v := .ref (ga g 37)) (ce_wld g _ (show 0 < 2 by decide)) rfl dX9_meaning_69 rfl ?_
        refine k_iload_n C 73 4 rfl rfl dX9_meaning_72 rfl ?_
        refine k_callVE C 76 (As := [.int (nI i)]) (st := []) 37 (by decide) (ce_fld g _ (show 0 < 3 by decide)) rfl rfl mwX9_235 vlX1_isAnswer (qX1_isAnswer l g M1 (fi := 0) (by decide) (f := i) (by omega)) mlX1_isAnswer (by decide) (by decide) rfl rfl (Nat.le_of_ble_eq_true rfl) dX9_meaning_73 rfl ?_
        refine k_if_eqB C 91 79 dX9_meaning_76 (by decide) rfl (fun c76 => ?_) (fun d76 => ?_)
        · skip
          refine k_iinc C 94 (nI (i + 1)) 4 [(3, .int (nI (i + 1))), (4, .ref (ga g i)), (0, .ref (ga g 90)), (1, .int w), (2, .int (pMean (fF M 0) n1 (M 53) w i))] rfl (iinc_p i) (by decide) rfl dX9_meaning_91 rfl ?_
          refine k_goto C 23 dX9_meaning_94 (by decide) ?_
          refine k_sub [(0, .ref (ga g 90)), (1, .int w), (2, .int (pMean (fF M 0) n1 (M 53) w i)), (3, .int (nI (i + 1)))] [2, 3, 4, 0] rfl ?_
          refine k_all (M' := M1) (lo' := [(0, .ref (ga g 90)), (1, .int w), (2, .int (pMean (fF M 0) n1 (M 53) w (i + 1))), (3, .int (nI (i + 1)))]) (st' := []) (by rfl) (by rw [pMean_n (by rw [hI0, c76]; rfl), Int32.add_zero]) rfl ?_
          exact ih (i + 1, M1) (show ((i + 1) ≤ n) ∧ (Sc lawS M M1) from by exact ⟨by omega, hA⟩) (by show n - (i + 1) < n - i; omega)
        · skip
          refine k_iload_n C 80 3 rfl rfl dX9_meaning_79 rfl ?_
          refine k_aload_n C 81 1 rfl rfl dX9_meaning_80 rfl ?_
          refine k_get C 84 flX9_12 90 (by decide) (v := .ref (ga g 43)) (ce_90 g _) rfl dX9_meaning_81 rfl ?_
          refine k_aload C 86 0  rfl dX9_meaning_84 rfl ?_
          refine k_callVI C 89 (As := [.ref (ga g i)]) (st := [.int (pMean (fF M 0) n1 (M 53) w i)]) 43 (by decide) (ce_wld g _ (show 0 < 2 by decide)) rfl rfl mwX9_141 vlX8_senseOf (qX8_senseOf l g M1 (n := n1) (lawOk_of hL hA (by decide)) (k := i) (by omega)) mlX8_senseOf (by decide) (by decide) rfl rfl (Nat.le_of_ble_eq_true rfl) dX9_meaning_86 rfl (fun r2 M2 h2 => ?_)
          obtain ⟨hr2, hs2⟩ := h2
          rw [show M1 53 = M 53 from funext fun k => hA 53 k (by unfold lawS; omega), show M1 i = M i from funext fun k => hA i k (by unfold lawS; omega)] at hr2
          refine k_iadd C 90 dX9_meaning_89 rfl ?_
          refine k_istore_n C 91 [(2, .int ((pMean (fF M 0) n1 (M 53) w i) + r2)), (4, .ref (ga g i)), (0, .ref (ga g 90)), (1, .int w), (3, .int (nI i))] rfl (by decide) rfl dX9_meaning_90 rfl ?_
          refine k_iinc C 94 (nI (i + 1)) 4 [(3, .int (nI (i + 1))), (2, .int ((pMean (fF M 0) n1 (M 53) w i) + r2)), (4, .ref (ga g i)), (0, .ref (ga g 90)), (1, .int w)] rfl (iinc_p i) (by decide) rfl dX9_meaning_91 rfl ?_
          refine k_goto C 23 dX9_meaning_94 (by decide) ?_
          refine k_sub [(0, .ref (ga g 90)), (1, .int w), (2, .int ((pMean (fF M 0) n1 (M 53) w i) + r2)), (3, .int (nI (i + 1)))] [3, 4, 1, 0] rfl ?_
          refine k_all (M' := M2) (lo' := [(0, .ref (ga g 90)), (1, .int w), (2, .int (pMean (fF M 0) n1 (M 53) w (i + 1))), (3, .int (nI (i + 1)))]) (st' := []) (by rfl) (by rw [pMean_y (by rw [hI0, d76, c53]; rfl), hr2, show fF M 0 i = M i from congrArg M (by omega)]) rfl ?_
          exact ih (i + 1, M2) (show ((i + 1) ≤ n) ∧ (Sc lawS M M2) from by exact ⟨by omega, Sc_tr hA hs2⟩) (by show n - (i + 1) < n - i; omega)
      · skip
        refine k_aload C 58 0  rfl dX9_meaning_56 rfl ?_
        refine k_get C 61 flX9_123 i (lt105_fu (by omega)) (v := .int ((M1) i 4)) (ce_fu g _ (by omega)) rfl dX9_meaning_58 rfl ?_
        refine k_teq (y := M i 4) (hA i 4 (by unfold lawS; omega)) ?_
        refine k_iload_n C 62 2 rfl rfl dX9_meaning_61 rfl ?_
        refine k_icmp_ne C 91 65 dX9_meaning_62 (by decide) rfl (fun c62 => ?_) (fun d62 => ?_)
        · skip
          refine k_iinc C 94 (nI (i + 1)) 4 [(3, .int (nI (i + 1))), (4, .ref (ga g i)), (0, .ref (ga g 90)), (1, .int w), (2, .int (pMean (fF M 0) n1 (M 53) w i))] rfl (iinc_p i) (by decide) rfl dX9_meaning_91 rfl ?_
          refine k_goto C 23 dX9_meaning_94 (by decide) ?_
          refine k_sub [(0, .ref (ga g 90)), (1, .int w), (2, .int (pMean (fF M 0) n1 (M 53) w i)), (3, .int (nI (i + 1)))] [2, 3, 4, 0] rfl ?_
          refine k_all (M' := M1) (lo' := [(0, .ref (ga g 90)), (1, .int w), (2, .int (pMean (fF M 0) n1 (M 53) w (i + 1))), (3, .int (nI (i + 1)))]) (st' := []) (by rfl) (by rw [pMean_n (by rw [decide_eq_false (hand_n hw d53), decide_eq_false (show ¬ fF M 0 i 4 = w by rw [fF0]; exact c62), Bool.or_false, Bool.and_false]), Int32.add_zero]) rfl ?_
          exact ih (i + 1, M1) (show ((i + 1) ≤ n) ∧ (Sc lawS M M1) from by exact ⟨by omega, hA⟩) (by show n - (i + 1) < n - i; omega)
        · skip
          have hI0 : pIsAns (fF M 0) i = pIsAns (fF M1 0) i := (pIsAns_cg (fun j hj => fF_Sc hA (by decide) (by omega))).symm
          refine k_aload_n C 66 1 rfl rfl dX9_meaning_65 rfl ?_
          refine k_get C 69 flX9_12 90 (by decide) (v := .ref (ga g 43)) (ce_90 g _) rfl dX9_meaning_66 rfl ?_
          refine k_get C 72 flX9_92 43 (by decide) (v := .ref (ga g 37)) (ce_wld g _ (show 0 < 2 by decide)) rfl dX9_meaning_69 rfl ?_
          refine k_iload_n C 73 4 rfl rfl dX9_meaning_72 rfl ?_
          refine k_callVE C 76 (As := [.int (nI i)]) (st := []) 37 (by decide) (ce_fld g _ (show 0 < 3 by decide)) rfl rfl mwX9_235 vlX1_isAnswer (qX1_isAnswer l g M1 (fi := 0) (by decide) (f := i) (by omega)) mlX1_isAnswer (by decide) (by decide) rfl rfl (Nat.le_of_ble_eq_true rfl) dX9_meaning_73 rfl ?_
          refine k_if_eqB C 91 79 dX9_meaning_76 (by decide) rfl (fun c76 => ?_) (fun d76 => ?_)
          · skip
            refine k_iinc C 94 (nI (i + 1)) 4 [(3, .int (nI (i + 1))), (4, .ref (ga g i)), (0, .ref (ga g 90)), (1, .int w), (2, .int (pMean (fF M 0) n1 (M 53) w i))] rfl (iinc_p i) (by decide) rfl dX9_meaning_91 rfl ?_
            refine k_goto C 23 dX9_meaning_94 (by decide) ?_
            refine k_sub [(0, .ref (ga g 90)), (1, .int w), (2, .int (pMean (fF M 0) n1 (M 53) w i)), (3, .int (nI (i + 1)))] [2, 3, 4, 0] rfl ?_
            refine k_all (M' := M1) (lo' := [(0, .ref (ga g 90)), (1, .int w), (2, .int (pMean (fF M 0) n1 (M 53) w (i + 1))), (3, .int (nI (i + 1)))]) (st' := []) (by rfl) (by rw [pMean_n (by rw [hI0, c76]; rfl), Int32.add_zero]) rfl ?_
            exact ih (i + 1, M1) (show ((i + 1) ≤ n) ∧ (Sc lawS M M1) from by exact ⟨by omega, hA⟩) (by show n - (i + 1) < n - i; omega)
          · skip
            refine k_iload_n C 80 3 rfl rfl dX9_meaning_79 rfl ?_
            refine k_aload_n C 81 1 rfl rfl dX9_meaning_80 rfl ?_
            refine k_get C 84 flX9_12 90 (by decide) (v := .ref (ga g 43)) (ce_90 g _) rfl dX9_meaning_81 rfl ?_
            refine k_aload C 86 0  rfl dX9_meaning_84 rfl ?_
            refine k_callVI C 89 (As := [.ref (ga g i)]) (st := [.int (pMean (fF M 0) n1 (M 53) w i)]) 43 (by decide) (ce_wld g _ (show 0 < 2 by decide)) rfl rfl mwX9_141 vlX8_senseOf (qX8_senseOf l g M1 (n := n1) (lawOk_of hL hA (by decide)) (k := i) (by omega)) mlX8_senseOf (by decide) (by decide) rfl rfl (Nat.le_of_ble_eq_true rfl) dX9_meaning_86 rfl (fun r2 M2 h2 => ?_)
            obtain ⟨hr2, hs2⟩ := h2
            rw [show M1 53 = M 53 from funext fun k => hA 53 k (by unfold lawS; omega), show M1 i = M i from funext fun k => hA i k (by unfold lawS; omega)] at hr2
            refine k_iadd C 90 dX9_meaning_89 rfl ?_
            refine k_istore_n C 91 [(2, .int ((pMean (fF M 0) n1 (M 53) w i) + r2)), (4, .ref (ga g i)), (0, .ref (ga g 90)), (1, .int w), (3, .int (nI i))] rfl (by decide) rfl dX9_meaning_90 rfl ?_
            refine k_iinc C 94 (nI (i + 1)) 4 [(3, .int (nI (i + 1))), (2, .int ((pMean (fF M 0) n1 (M 53) w i) + r2)), (4, .ref (ga g i)), (0, .ref (ga g 90)), (1, .int w)] rfl (iinc_p i) (by decide) rfl dX9_meaning_91 rfl ?_
            refine k_goto C 23 dX9_meaning_94 (by decide) ?_
            refine k_sub [(0, .ref (ga g 90)), (1, .int w), (2, .int ((pMean (fF M 0) n1 (M 53) w i) + r2)), (3, .int (nI (i + 1)))] [3, 4, 1, 0] rfl ?_
            refine k_all (M' := M2) (lo' := [(0, .ref (ga g 90)), (1, .int w), (2, .int (pMean (fF M 0) n1 (M 53) w (i + 1))), (3, .int (nI (i + 1)))]) (st' := []) (by rfl) (by rw [pMean_y (by rw [hI0, d76, decide_eq_true (show fF M 0 i 4 = w by rw [fF0]; exact d62), Bool.or_true]; rfl), hr2, show fF M 0 i = M i from congrArg M (by omega)]) rfl ?_
            exact ih (i + 1, M2) (show ((i + 1) ≤ n) ∧ (Sc lawS M M2) from by exact ⟨by omega, Sc_tr hA hs2⟩) (by show n - (i + 1) < n - i; omega)
  · skip
    refine k_iload_n C 6 1 rfl rfl dX9_meaning_5 rfl ?_
    refine k_callSE C 9 (As := [.int w]) (st := []) mwX9_84 skX9_isHand (qX9_isHand l g M w) mlX9_isHand (by decide) (by decide) rfl rfl (Nat.le_of_ble_eq_true rfl) dX9_meaning_6 rfl ?_
    refine k_if_neB C 19 12 dX9_meaning_9 (by decide) rfl (fun c9 => ?_) (fun d9 => ?_)
    · skip
      refine k_iconst C 20 (v := 0) (by decide) dX9_meaning_19 rfl ?_
      refine k_istore_n C 21 [(2, .int 0), (0, .ref (ga g 90)), (1, .int w)] rfl (by decide) rfl dX9_meaning_20 rfl ?_
      refine k_iconst C 22 (v := 0) (by decide) dX9_meaning_21 rfl ?_
      refine k_istore_n C 23 [(3, .int 0), (2, .int 0), (0, .ref (ga g 90)), (1, .int w)] rfl (by decide) rfl dX9_meaning_22 rfl ?_
      refine k_sub [(0, .ref (ga g 90)), (1, .int w), (2, .int 0), (3, .int 0)] [2, 3, 1, 0] rfl ?_
      refine k_all (M' := M) (lo' := [(0, .ref (ga g 90)), (1, .int w), (2, .int (pMean (fF M 0) n1 (M 53) w 0)), (3, .int (nI 0))]) (st' := []) (by rfl) (by rfl) rfl ?_
      refine k_loop (σ := Nat × Mem) (fun (v : Nat × Mem) => match v with | (i, M1) => (i ≤ n) ∧ (Sc lawS M M1)) (fun (v : Nat × Mem) => match v with | (i, M1) => n - i) (fun (v : Nat × Mem) => match v with | (i, M1) => M1) (fun (v : Nat × Mem) => match v with | (i, M1) => [(0, .ref (ga g 90)), (1, .int w), (2, .int (pMean (fF M 0) n1 (M 53) w i)), (3, .int (nI i))]) (0, M) (show (0 ≤ n) ∧ (Sc lawS M M) from by exact ⟨Nat.zero_le _, fun _ _ _ => rfl⟩) ?_
      rintro ⟨i, M1⟩ hI ih
      have hI : (i ≤ n) ∧ (Sc lawS M M1) := hI
      obtain ⟨hi, hA⟩ := hI
      show KW pP l eE RR sS mI aG bB mE cD g 5 _ (M1) 23 [(0, .ref (ga g 90)), (1, .int w), (2, .int (pMean (fF M 0) n1 (M 53) w i)), (3, .int (nI i))] []
      refine k_iload_n C 24 3 rfl rfl dX9_meaning_23 rfl ?_
      refine k_aload_n C 25 0 rfl rfl dX9_meaning_24 rfl ?_
      refine k_get C 28 flX9_12 90 (by decide) (v := .ref (ga g 43)) (ce_90 g _) rfl dX9_meaning_25 rfl ?_
      refine k_get C 31 flX9_92 43 (by decide) (v := .ref (ga g 37)) (ce_wld g _ (show 0 < 2 by decide)) rfl dX9_meaning_28 rfl ?_
      refine k_get C 34 flX9_95 37 (by decide) (v := .int ((M1) 37 1)) (ce_fld g _ (show 0 < 3 by decide)) rfl dX9_meaning_31 rfl ?_
      refine k_teq (y := nI n) ((hA 37 1 (by unfold lawS; omega)).trans hn) ?_
      refine k_icmp_ge C 97 37 dX9_meaning_34 (by decide) rfl (fun c34 => ?_) (fun d34 => ?_)
      · skip
        have c34 := (nI_leI (by omega) (by omega)).mp (show nI n ≤ nI i from c34)
        refine k_iload_n C 98 2 rfl rfl dX9_meaning_97 rfl ?_
        refine k_ret C rfl dX9_meaning_98 ?_
        have e : i = n := by omega
        subst e
        exact ⟨rfl, hA⟩
      · skip
        have d34 := mt (nI_leI (by omega) (by omega)).mpr (show ¬ (nI n ≤ nI i) from d34)
        refine k_aload_n C 38 0 rfl rfl dX9_meaning_37 rfl ?_
        refine k_get C 41 flX9_12 90 (by decide) (v := .ref (ga g 43)) (ce_90 g _) rfl dX9_meaning_38 rfl ?_
        refine k_get C 44 flX9_92 43 (by decide) (v := .ref (ga g 37)) (ce_wld g _ (show 0 < 2 by decide)) rfl dX9_meaning_41 rfl ?_
        refine k_get C 47 flX9_107 37 (by decide) (v := .ref (ga g 40)) (ce_fld g _ (show 0 < 3 by decide)) rfl dX9_meaning_44 rfl ?_
        refine k_iload_n C 48 3 rfl rfl dX9_meaning_47 rfl ?_
        refine k_aald C 49 40 i 3 (by decide) (ce_fa g _ (show 0 < 3 by decide)) rfl (by decide) rfl (by omega) dX9_meaning_48 rfl ?_
        refine k_st (st' := [.ref (ga g i)]) (by simp only [Nat.mul_zero, Nat.zero_add]) ?_
        refine k_astore C 51 [(4, .ref (ga g i)), (0, .ref (ga g 90)), (1, .int w), (2, .int (pMean (fF M 0) n1 (M 53) w i)), (3, .int (nI i))]  (by decide) rfl dX9_meaning_49 rfl ?_
        refine k_iload_n C 52 2 rfl rfl dX9_meaning_51 rfl ?_
        refine k_iconst C 53 (v := (-1)) (by decide) dX9_meaning_52 rfl ?_
        refine k_icmp_eq C 65 56 dX9_meaning_53 (by decide) rfl (fun c53 => ?_) (fun d53 => ?_)
        · skip
          have hI0 : pIsAns (fF M 0) i = pIsAns (fF M1 0) i := (pIsAns_cg (fun j hj => fF_Sc hA (by decide) (by omega))).symm
          refine k_aload_n C 66 1 rfl rfl dX9_meaning_65 rfl ?_
          refine k_get C 69 flX9_12 90 (by decide) (v := .ref (ga g 43)) (ce_90 g _) rfl dX9_meaning_66 rfl ?_
          refine k_get C 72 flX9_92 43 (by decide) (v := .ref (ga g 37)) (ce_wld g _ (show 0 < 2 by decide)) rfl dX9_meaning_69 rfl ?_
          refine k_iload_n C 73 4 rfl rfl dX9_meaning_72 rfl ?_
          refine k_callVE C 76 (As := [.int (nI i)]) (st := []) 37 (by decide) (ce_fld g _ (show 0 < 3 by decide)) rfl rfl mwX9_235 vlX1_isAnswer (qX1_isAnswer l g M1 (fi := 0) (by decide) (f := i) (by omega)) mlX1_isAnswer (by decide) (by decide) rfl rfl (Nat.le_of_ble_eq_true rfl) dX9_meaning_73 rfl ?_
          refine k_if_eqB C 91 79 dX9_meaning_76 (by decide) rfl (fun c76 => ?_) (fun d76 => ?_)
          · skip
            refine k_iinc C 94 (nI (i + 1)) 4 [(3, .int (nI (i + 1))), (4, .ref (ga g i)), (0, .ref (ga g 90)), (1, .int w), (2, .int (pMean (fF M 0) n1 (M 53) w i))] rfl (iinc_p i) (by decide) rfl dX9_meaning_91 rfl ?_
            refine k_goto C 23 dX9_meaning_94 (by decide) ?_
            refine k_sub [(0, .ref (ga g 90)), (1, .int w), (2, .int (pMean (fF M 0) n1 (M 53) w i)), (3, .int (nI (i + 1)))] [2, 3, 4, 0] rfl ?_
            refine k_all (M' := M1) (lo' := [(0, .ref (ga g 90)), (1, .int w), (2, .int (pMean (fF M 0) n1 (M 53) w (i + 1))), (3, .int (nI (i + 1)))]) (st' := []) (by rfl) (by rw [pMean_n (by rw [hI0, c76]; rfl), Int32.add_zero]) rfl ?_
            exact ih (i + 1, M1) (show ((i + 1) ≤ n) ∧ (Sc lawS M M1) from by exact ⟨by omega, hA⟩) (by show n - (i + 1) < n - i; omega)
          · skip
            refine k_iload_n C 80 3 rfl rfl dX9_meaning_79 rfl ?_
            refine k_aload_n C 81 1 rfl rfl dX9_meaning_80 rfl ?_
            refine k_get C 84 flX9_12 90 (by decide) (v := .ref (ga g 43)) (ce_90 g _) rfl dX9_meaning_81 rfl ?_
            refine k_aload C 86 0  rfl dX9_meaning_84 rfl ?_
            refine k_callVI C 89 (As := [.ref (ga g i)]) (st := [.int (pMean (fF M 0) n1 (M 53) w i)]) 43 (by decide) (ce_wld g _ (show 0 < 2 by decide)) rfl rfl mwX9_141 vlX8_senseOf (qX8_senseOf l g M1 (n := n1) (lawOk_of hL hA (by decide)) (k := i) (by omega)) mlX8_senseOf (by decide) (by decide) rfl rfl (Nat.le_of_ble_eq_true rfl) dX9_meaning_86 rfl (fun r2 M2 h2 => ?_)
            obtain ⟨hr2, hs2⟩ := h2
            rw [show M1 53 = M 53 from funext fun k => hA 53 k (by unfold lawS; omega), show M1 i = M i from funext fun k => hA i k (by unfold lawS; omega)] at hr2
            refine k_iadd C 90 dX9_meaning_89 rfl ?_
            refine k_istore_n C 91 [(2, .int ((pMean (fF M 0) n1 (M 53) w i) + r2)), (4, .ref (ga g i)), (0, .ref (ga g 90)), (1, .int w), (3, .int (nI i))] rfl (by decide) rfl dX9_meaning_90 rfl ?_
            refine k_iinc C 94 (nI (i + 1)) 4 [(3, .int (nI (i + 1))), (2, .int ((pMean (fF M 0) n1 (M 53) w i) + r2)), (4, .ref (ga g i)), (0, .ref (ga g 90)), (1, .int w)] rfl (iinc_p i) (by decide) rfl dX9_meaning_91 rfl ?_
            refine k_goto C 23 dX9_meaning_94 (by decide) ?_
            refine k_sub [(0, .ref (ga g 90)), (1, .int w), (2, .int ((pMean (fF M 0) n1 (M 53) w i) + r2)), (3, .int (nI (i + 1)))] [3, 4, 1, 0] rfl ?_
            refine k_all (M' := M2) (lo' := [(0, .ref (ga g 90)), (1, .int w), (2, .int (pMean (fF M 0) n1 (M 53) w (i + 1))), (3, .int (nI (i + 1)))]) (st' := []) (by rfl) (by rw [pMean_y (by rw [hI0, d76, c53]; rfl), hr2, show fF M 0 i = M i from congrArg M (by omega)]) rfl ?_
            exact ih (i + 1, M2) (show ((i + 1) ≤ n) ∧ (Sc lawS M M2) from by exact ⟨by omega, Sc_tr hA hs2⟩) (by show n - (i + 1) < n - i; omega)
        · skip
          refine k_aload C 58 0  rfl dX9_meaning_56 rfl ?_
          refine k_get C 61 flX9_123 i (lt105_fu (by omega)) (v := .int ((M1) i 4)) (ce_fu g _ (by omega)) rfl dX9_meaning_58 rfl ?_
          refine k_teq (y := M i 4) (hA i 4 (by unfold lawS; omega)) ?_
          refine k_iload_n C 62 2 rfl rfl dX9_meaning_61 rfl ?_
          refine k_icmp_ne C 91 65 dX9_meaning_62 (by decide) rfl (fun c62 => ?_) (fun d62 => ?_)
          · skip
            refine k_iinc C 94 (nI (i + 1)) 4 [(3, .int (nI (i + 1))), (4, .ref (ga g i)), (0, .ref (ga g 90)), (1, .int w), (2, .int (pMean (fF M 0) n1 (M 53) w i))] rfl (iinc_p i) (by decide) rfl dX9_meaning_91 rfl ?_
            refine k_goto C 23 dX9_meaning_94 (by decide) ?_
            refine k_sub [(0, .ref (ga g 90)), (1, .int w), (2, .int (pMean (fF M 0) n1 (M 53) w i)), (3, .int (nI (i + 1)))] [2, 3, 4, 0] rfl ?_
            refine k_all (M' := M1) (lo' := [(0, .ref (ga g 90)), (1, .int w), (2, .int (pMean (fF M 0) n1 (M 53) w (i + 1))), (3, .int (nI (i + 1)))]) (st' := []) (by rfl) (by rw [pMean_n (by rw [decide_eq_false (hand_n hw d53), decide_eq_false (show ¬ fF M 0 i 4 = w by rw [fF0]; exact c62), Bool.or_false, Bool.and_false]), Int32.add_zero]) rfl ?_
            exact ih (i + 1, M1) (show ((i + 1) ≤ n) ∧ (Sc lawS M M1) from by exact ⟨by omega, hA⟩) (by show n - (i + 1) < n - i; omega)
          · skip
            have hI0 : pIsAns (fF M 0) i = pIsAns (fF M1 0) i := (pIsAns_cg (fun j hj => fF_Sc hA (by decide) (by omega))).symm
            refine k_aload_n C 66 1 rfl rfl dX9_meaning_65 rfl ?_
            refine k_get C 69 flX9_12 90 (by decide) (v := .ref (ga g 43)) (ce_90 g _) rfl dX9_meaning_66 rfl ?_
            refine k_get C 72 flX9_92 43 (by decide) (v := .ref (ga g 37)) (ce_wld g _ (show 0 < 2 by decide)) rfl dX9_meaning_69 rfl ?_
            refine k_iload_n C 73 4 rfl rfl dX9_meaning_72 rfl ?_
            refine k_callVE C 76 (As := [.int (nI i)]) (st := []) 37 (by decide) (ce_fld g _ (show 0 < 3 by decide)) rfl rfl mwX9_235 vlX1_isAnswer (qX1_isAnswer l g M1 (fi := 0) (by decide) (f := i) (by omega)) mlX1_isAnswer (by decide) (by decide) rfl rfl (Nat.le_of_ble_eq_true rfl) dX9_meaning_73 rfl ?_
            refine k_if_eqB C 91 79 dX9_meaning_76 (by decide) rfl (fun c76 => ?_) (fun d76 => ?_)
            · skip
              refine k_iinc C 94 (nI (i + 1)) 4 [(3, .int (nI (i + 1))), (4, .ref (ga g i)), (0, .ref (ga g 90)), (1, .int w), (2, .int (pMean (fF M 0) n1 (M 53) w i))] rfl (iinc_p i) (by decide) rfl dX9_meaning_91 rfl ?_
              refine k_goto C 23 dX9_meaning_94 (by decide) ?_
              refine k_sub [(0, .ref (ga g 90)), (1, .int w), (2, .int (pMean (fF M 0) n1 (M 53) w i)), (3, .int (nI (i + 1)))] [2, 3, 4, 0] rfl ?_
              refine k_all (M' := M1) (lo' := [(0, .ref (ga g 90)), (1, .int w), (2, .int (pMean (fF M 0) n1 (M 53) w (i + 1))), (3, .int (nI (i + 1)))]) (st' := []) (by rfl) (by rw [pMean_n (by rw [hI0, c76]; rfl), Int32.add_zero]) rfl ?_
              exact ih (i + 1, M1) (show ((i + 1) ≤ n) ∧ (Sc lawS M M1) from by exact ⟨by omega, hA⟩) (by show n - (i + 1) < n - i; omega)
            · skip
              refine k_iload_n C 80 3 rfl rfl dX9_meaning_79 rfl ?_
              refine k_aload_n C 81 1 rfl rfl dX9_meaning_80 rfl ?_
              refine k_get C 84 flX9_12 90 (by decide) (v := .ref (ga g 43)) (ce_90 g _) rfl dX9_meaning_81 rfl ?_
              refine k_aload C 86 0  rfl dX9_meaning_84 rfl ?_
              refine k_callVI C 89 (As := [.ref (ga g i)]) (st := [.int (pMean (fF M 0) n1 (M 53) w i)]) 43 (by decide) (ce_wld g _ (show 0 < 2 by decide)) rfl rfl mwX9_141 vlX8_senseOf (qX8_senseOf l g M1 (n := n1) (lawOk_of hL hA (by decide)) (k := i) (by omega)) mlX8_senseOf (by decide) (by decide) rfl rfl (Nat.le_of_ble_eq_true rfl) dX9_meaning_86 rfl (fun r2 M2 h2 => ?_)
              obtain ⟨hr2, hs2⟩ := h2
              rw [show M1 53 = M 53 from funext fun k => hA 53 k (by unfold lawS; omega), show M1 i = M i from funext fun k => hA i k (by unfold lawS; omega)] at hr2
              refine k_iadd C 90 dX9_meaning_89 rfl ?_
              refine k_istore_n C 91 [(2, .int ((pMean (fF M 0) n1 (M 53) w i) + r2)), (4, .ref (ga g i)), (0, .ref (ga g 90)), (1, .int w), (3, .int (nI i))] rfl (by decide) rfl dX9_meaning_90 rfl ?_
              refine k_iinc C 94 (nI (i + 1)) 4 [(3, .int (nI (i + 1))), (2, .int ((pMean (fF M 0) n1 (M 53) w i) + r2)), (4, .ref (ga g i)), (0, .ref (ga g 90)), (1, .int w)] rfl (iinc_p i) (by decide) rfl dX9_meaning_91 rfl ?_
              refine k_goto C 23 dX9_meaning_94 (by decide) ?_
              refine k_sub [(0, .ref (ga g 90)), (1, .int w), (2, .int ((pMean (fF M 0) n1 (M 53) w i) + r2)), (3, .int (nI (i + 1)))] [3, 4, 1, 0] rfl ?_
              refine k_all (M' := M2) (lo' := [(0, .ref (ga g 90)), (1, .int w), (2, .int (pMean (fF M 0) n1 (M 53) w (i + 1))), (3, .int (nI (i + 1)))]) (st' := []) (by rfl) (by rw [pMean_y (by rw [hI0, d76, decide_eq_true (show fF M 0 i 4 = w by rw [fF0]; exact d62), Bool.or_true]; rfl), hr2, show fF M 0 i = M i from congrArg M (by omega)]) rfl ?_
              exact ih (i + 1, M2) (show ((i + 1) ≤ n) ∧ (Sc lawS M M2) from by exact ⟨by omega, Sc_tr hA hs2⟩) (by show n - (i + 1) < n - i; omega)
    · skip
      exact (hand_t hw d2 d9).elim
set_option maxHeartbeats 4000000 in
set_option maxRecDepth 20000 in
theorem qX9_fewest_f (l : Launch) (g : GT) (M : Mem) (w : Int32) (hf : (decide (0 ≤ w) && decide (w ≤ 1)) = false) : CtrE l g yX9_fewest cX9_fewest 3 (some .int) 5 [.ref (ga g 90), .int w] M (-1000000001) (mu M 89 1 (M 89 1 + 1)) := by
  refine ctrI_of (by decide +kernel) (Nat.le_of_ble_eq_true rfl) ?_
  intro pP eE RR sS mI aG bB mE cD C
  refine k_lo (lo' := [(0, .ref (ga g 90)), (1, .int w)]) rfl ?_
  refine k_iload_n C 1 1 rfl rfl dX9_fewest_0 rfl ?_
  refine k_if_lt C 9 4 dX9_fewest_1 (by decide) rfl (fun c1 => ?_) (fun d1 => ?_)
  · skip
    refine k_aload_n C 10 0 rfl rfl dX9_fewest_9 rfl ?_
    refine k_ldc C 12 cwX9_87 dX9_fewest_10 rfl ?_
    refine k_callVE C 15 (As := [.int (-1000000001)]) (st := []) 90 (by decide) (ce_90 g _) rfl rfl mwX9_88 vlX9_refuse (qX9_refuse l g M (-1000000001) (k := 1) (by decide) (by decide) (by decide)) mlX9_refuse (by decide) (by decide) rfl rfl (Nat.le_of_ble_eq_true rfl) dX9_fewest_12 rfl ?_
    refine k_ret C rfl dX9_fewest_15 ?_
    exact ⟨rfl, rfl⟩
  · skip
    refine k_iload_n C 5 1 rfl rfl dX9_fewest_4 rfl ?_
    refine k_iconst C 6 (v := 1) (by decide) dX9_fewest_5 rfl ?_
    refine k_icmp_le C 16 9 dX9_fewest_6 (by decide) rfl (fun c6 => ?_) (fun d6 => ?_)
    · skip
      exact (bz hf (by rw [decide_eq_true (Int32.not_lt.mp d1), decide_eq_true c6]; rfl)).elim
    · skip
      refine k_aload_n C 10 0 rfl rfl dX9_fewest_9 rfl ?_
      refine k_ldc C 12 cwX9_87 dX9_fewest_10 rfl ?_
      refine k_callVE C 15 (As := [.int (-1000000001)]) (st := []) 90 (by decide) (ce_90 g _) rfl rfl mwX9_88 vlX9_refuse (qX9_refuse l g M (-1000000001) (k := 1) (by decide) (by decide) (by decide)) mlX9_refuse (by decide) (by decide) rfl rfl (Nat.le_of_ble_eq_true rfl) dX9_fewest_12 rfl ?_
      refine k_ret C rfl dX9_fewest_15 ?_
      exact ⟨rfl, rfl⟩
set_option maxHeartbeats 4000000 in
set_option maxRecDepth 20000 in
theorem qX9_fewest_t (l : Launch) (g : GT) (M : Mem) {n : Nat} (hn : M 37 1 = nI n) (h12 : n ≤ 12) {w : Nat} (hw : w < 2) : CtrI l g yX9_fewest cX9_fewest 3 (some .int) 5 [.ref (ga g 90), .int (nI w)] M (fun r M1 => r = (if w = 0 then nI (popc (pSet (fF M 0) n &&& (4095 ^^^ (pBst (fF M 0) n % 4096)))) else nI (pSet (fF M 0) n &&& (4095 ^^^ (pBst (fF M 0) n % 4096)))) ∧ ∀ a, a ≠ 68 → M1 a = M a) := by
  refine ctrI_of (by decide +kernel) (Nat.le_of_ble_eq_true rfl) ?_
  intro pP eE RR sS mI aG bB mE cD C
  refine k_lo (lo' := [(0, .ref (ga g 90)), (1, .int (nI w))]) rfl ?_
  have hA4 : pSet (fF M 0) n < 4096 := (Nat.lt_of_lt_of_le (pSet_lt _ _) (Nat.pow_le_pow_right (by decide) h12))
  have hB4 : pBst (fF M 0) n % 4096 < 4096 := Nat.mod_lt _ (by decide)
  refine k_iload_n C 1 1 rfl rfl dX9_fewest_0 rfl ?_
  refine k_if_lt C 9 4 dX9_fewest_1 (by decide) rfl (fun c1 => ?_) (fun d1 => ?_)
  · skip
    have c1 := (nI_ltI (by omega) (by omega)).mp (show nI w < nI 0 from c1)
    exact absurd c1 (by omega)
  · skip
    have d1 := mt (nI_ltI (by omega) (by omega)).mpr (show ¬ (nI w < nI 0) from d1)
    refine k_iload_n C 5 1 rfl rfl dX9_fewest_4 rfl ?_
    refine k_iconst C 6 (v := 1) (by decide) dX9_fewest_5 rfl ?_
    refine k_icmp_le C 16 9 dX9_fewest_6 (by decide) rfl (fun c6 => ?_) (fun d6 => ?_)
    · skip
      have c6 := (nI_leI (by omega) (by omega)).mp (show nI w ≤ nI 1 from c6)
      refine k_aload_n C 17 0 rfl rfl dX9_fewest_16 rfl ?_
      refine k_get C 20 flX9_12 90 (by decide) (v := .ref (ga g 43)) (ce_90 g _) rfl dX9_fewest_17 rfl ?_
      refine k_get C 23 flX9_92 43 (by decide) (v := .ref (ga g 37)) (ce_wld g _ (show 0 < 2 by decide)) rfl dX9_fewest_20 rfl ?_
      refine k_callVE C 26 (As := []) (st := []) 37 (by decide) (ce_fld g _ (show 0 < 3 by decide)) rfl rfl mwX9_241 vlX1_seenSet (qX1_seenSet l g M (fi := 0) (by decide) (n := n) hn h12) mlX1_seenSet (by decide) (by decide) rfl rfl (Nat.le_of_ble_eq_true rfl) dX9_fewest_23 rfl ?_
      refine k_aload_n C 27 0 rfl rfl dX9_fewest_26 rfl ?_
      refine k_get C 30 flX9_36 90 (by decide) (v := .ref (ga g 67)) (ce_90 g _) rfl dX9_fewest_27 rfl ?_
      refine k_aload_n C 31 0 rfl rfl dX9_fewest_30 rfl ?_
      refine k_get C 34 flX9_12 90 (by decide) (v := .ref (ga g 43)) (ce_90 g _) rfl dX9_fewest_31 rfl ?_
      refine k_get C 37 flX9_92 43 (by decide) (v := .ref (ga g 37)) (ce_wld g _ (show 0 < 2 by decide)) rfl dX9_fewest_34 rfl ?_
      refine k_callVI C 40 (As := [.ref (ga g 37)]) (st := [.int (nI (pSet (fF M 0) n))]) 67 (by decide) (ce_67 g _) rfl rfl mwX9_244 vlX0_bestSet (qX0_bestSet l g M (fi := 0) (by decide) (n := n) hn h12) mlX0_bestSet (by decide) (by decide) rfl rfl (Nat.le_of_ble_eq_true rfl) dX9_fewest_37 rfl (fun r1 M1 h1 => ?_)
      obtain ⟨hr1, hs1⟩ := h1
      subst hr1
      refine k_iconst C 41 (v := (-1)) (by decide) dX9_fewest_40 rfl ?_
      refine k_ixor C 42 dX9_fewest_41 rfl ?_
      refine k_iand C 43 dX9_fewest_42 rfl ?_
      refine k_teq (y := nI (pSet (fF M 0) n &&& (4095 ^^^ (pBst (fF M 0) n % 4096)))) (andn12 hA4 hB4) ?_
      refine k_istore_n C 44 [(2, .int (nI (pSet (fF M 0) n &&& (4095 ^^^ (pBst (fF M 0) n % 4096))))), (0, .ref (ga g 90)), (1, .int (nI w))] rfl (by decide) rfl dX9_fewest_43 rfl ?_
      refine k_iload_n C 45 2 rfl rfl dX9_fewest_44 rfl ?_
      refine k_if_ne C 55 48 dX9_fewest_45 (by decide) rfl (fun c45 => ?_) (fun d45 => ?_)
      · skip
        have c45 := mt (nI_eq (by omega) (by omega)).mpr (show ¬ (nI w = nI 0) from c45)
        refine k_iload_n C 56 0 rfl rfl dX9_fewest_55 rfl ?_
        refine k_ret C rfl dX9_fewest_56 ?_
        exact ⟨by rw [if_neg c45], hs1⟩
      · skip
        have d45 := (nI_eq (by omega) (by omega)).mp (show nI w = nI 0 from d45)
        refine k_iload_n C 49 0 rfl rfl dX9_fewest_48 rfl ?_
        refine k_callSE C 52 (As := [.int (nI (pSet (fF M 0) n &&& (4095 ^^^ (pBst (fF M 0) n % 4096))))]) (st := []) mwX9_248 skJ6_bitCount_0f7a4 (qJ6_bitCount_0f7a4 l g M1 (nI (pSet (fF M 0) n &&& (4095 ^^^ (pBst (fF M 0) n % 4096))))) mlJ6_bitCount_0f7a4 (by decide) (by decide) rfl rfl (Nat.le_of_ble_eq_true rfl) dX9_fewest_49 rfl ?_
        refine k_goto C 56 dX9_fewest_52 (by decide) ?_
        refine k_ret C rfl dX9_fewest_56 ?_
        exact ⟨by rw [if_pos d45]; exact pBc_nI _ (andn_lt hA4), hs1⟩
    · skip
      have d6 := mt (nI_leI (by omega) (by omega)).mpr (show ¬ (nI w ≤ nI 1) from d6)
      exact absurd d6 (by omega)
set_option maxHeartbeats 4000000 in
set_option maxRecDepth 20000 in
theorem qX9_reply_f (l : Launch) (g : GT) (M : Mem) (x w : Int32) (hf : (pLine x && (decide (0 ≤ w) && decide (w ≤ 1))) = false) : CtrE l g yX9_reply cX9_reply 5 (some .int) 4 [.ref (ga g 90), .int x, .int w] M (-1000000001) (mu M 89 1 (M 89 1 + 1)) := by
  refine ctrI_of (by decide +kernel) (Nat.le_of_ble_eq_true rfl) ?_
  intro pP eE RR sS mI aG bB mE cD C
  refine k_lo (lo' := [(0, .ref (ga g 90)), (1, .int x), (2, .int w)]) rfl ?_
  refine k_iload_n C 1 1 rfl rfl dX9_reply_0 rfl ?_
  refine k_callSE C 4 (As := [.int x]) (st := []) mwX9_81 skX9_isLine (qX9_isLine l g M x) mlX9_isLine (by decide) (by decide) rfl rfl (Nat.le_of_ble_eq_true rfl) dX9_reply_1 rfl ?_
  refine k_if_eqB C 16 7 dX9_reply_4 (by decide) rfl (fun c4 => ?_) (fun d4 => ?_)
  · skip
    refine k_aload_n C 17 0 rfl rfl dX9_reply_16 rfl ?_
    refine k_ldc C 19 cwX9_87 dX9_reply_17 rfl ?_
    refine k_callVE C 22 (As := [.int (-1000000001)]) (st := []) 90 (by decide) (ce_90 g _) rfl rfl mwX9_88 vlX9_refuse (qX9_refuse l g M (-1000000001) (k := 1) (by decide) (by decide) (by decide)) mlX9_refuse (by decide) (by decide) rfl rfl (Nat.le_of_ble_eq_true rfl) dX9_reply_19 rfl ?_
    refine k_ret C rfl dX9_reply_22 ?_
    exact ⟨rfl, rfl⟩
  · skip
    refine k_iload_n C 8 2 rfl rfl dX9_reply_7 rfl ?_
    refine k_if_lt C 16 11 dX9_reply_8 (by decide) rfl (fun c8 => ?_) (fun d8 => ?_)
    · skip
      refine k_aload_n C 17 0 rfl rfl dX9_reply_16 rfl ?_
      refine k_ldc C 19 cwX9_87 dX9_reply_17 rfl ?_
      refine k_callVE C 22 (As := [.int (-1000000001)]) (st := []) 90 (by decide) (ce_90 g _) rfl rfl mwX9_88 vlX9_refuse (qX9_refuse l g M (-1000000001) (k := 1) (by decide) (by decide) (by decide)) mlX9_refuse (by decide) (by decide) rfl rfl (Nat.le_of_ble_eq_true rfl) dX9_reply_19 rfl ?_
      refine k_ret C rfl dX9_reply_22 ?_
      exact ⟨rfl, rfl⟩
    · skip
      refine k_iload_n C 12 2 rfl rfl dX9_reply_11 rfl ?_
      refine k_iconst C 13 (v := 1) (by decide) dX9_reply_12 rfl ?_
      refine k_icmp_le C 23 16 dX9_reply_13 (by decide) rfl (fun c13 => ?_) (fun d13 => ?_)
      · skip
        exact (bz hf (by rw [show pLine x = true from d4, decide_eq_true (Int32.not_lt.mp d8), decide_eq_true c13]; rfl)).elim
      · skip
        refine k_aload_n C 17 0 rfl rfl dX9_reply_16 rfl ?_
        refine k_ldc C 19 cwX9_87 dX9_reply_17 rfl ?_
        refine k_callVE C 22 (As := [.int (-1000000001)]) (st := []) 90 (by decide) (ce_90 g _) rfl rfl mwX9_88 vlX9_refuse (qX9_refuse l g M (-1000000001) (k := 1) (by decide) (by decide) (by decide)) mlX9_refuse (by decide) (by decide) rfl rfl (Nat.le_of_ble_eq_true rfl) dX9_reply_19 rfl ?_
        refine k_ret C rfl dX9_reply_22 ?_
        exact ⟨rfl, rfl⟩
set_option maxHeartbeats 4000000 in
set_option maxRecDepth 20000 in
theorem qX9_reply_0 (l : Launch) (g : GT) (M : Mem) {n : Nat} (hn : M 37 1 = nI n) (h12 : n ≤ 12) {TL TC : Nat} (hTL : TL < 12) (hTC : TC < 6) (hx : pLine (nI (10 * (TL + 1) + TC)) = true) {w : Nat} (hw : w < 2) (h : pAhead (fF M 0) n = none) : CtrE l g yX9_reply cX9_reply 5 (some .int) 4 [.ref (ga g 90), .int (nI (10 * (TL + 1) + TC)), .int (nI w)] M (-1000000003) (mu M 89 3 (M 89 3 + 1)) := by
  refine ctrI_of (by decide +kernel) (Nat.le_of_ble_eq_true rfl) ?_
  intro pP eE RR sS mI aG bB mE cD C
  refine k_lo (lo' := [(0, .ref (ga g 90)), (1, .int (nI (10 * (TL + 1) + TC))), (2, .int (nI w))]) rfl ?_
  refine k_iload_n C 1 1 rfl rfl dX9_reply_0 rfl ?_
  refine k_callSE C 4 (As := [.int (nI (10 * (TL + 1) + TC))]) (st := []) mwX9_81 skX9_isLine (qX9_isLine l g M (nI (10 * (TL + 1) + TC))) mlX9_isLine (by decide) (by decide) rfl rfl (Nat.le_of_ble_eq_true rfl) dX9_reply_1 rfl ?_
  refine k_if_eqB C 16 7 dX9_reply_4 (by decide) rfl (fun c4 => ?_) (fun d4 => ?_)
  · skip
    exact (bz c4 hx).elim
  · skip
    refine k_iload_n C 8 2 rfl rfl dX9_reply_7 rfl ?_
    refine k_if_lt C 16 11 dX9_reply_8 (by decide) rfl (fun c8 => ?_) (fun d8 => ?_)
    · skip
      have c8 := (nI_ltI (by omega) (by omega)).mp (show nI w < nI 0 from c8)
      exact absurd c8 (by omega)
    · skip
      have d8 := mt (nI_ltI (by omega) (by omega)).mpr (show ¬ (nI w < nI 0) from d8)
      refine k_iload_n C 12 2 rfl rfl dX9_reply_11 rfl ?_
      refine k_iconst C 13 (v := 1) (by decide) dX9_reply_12 rfl ?_
      refine k_icmp_le C 23 16 dX9_reply_13 (by decide) rfl (fun c13 => ?_) (fun d13 => ?_)
      · skip
        have c13 := (nI_leI (by omega) (by omega)).mp (show nI w ≤ nI 1 from c13)
        refine k_aload_n C 24 0 rfl rfl dX9_reply_23 rfl ?_
        refine k_get C 27 flX9_12 90 (by decide) (v := .ref (ga g 43)) (ce_90 g _) rfl dX9_reply_24 rfl ?_
        refine k_get C 30 flX9_92 43 (by decide) (v := .ref (ga g 37)) (ce_wld g _ (show 0 < 2 by decide)) rfl dX9_reply_27 rfl ?_
        refine k_aload_n C 31 0 rfl rfl dX9_reply_30 rfl ?_
        refine k_get C 34 flX9_12 90 (by decide) (v := .ref (ga g 43)) (ce_90 g _) rfl dX9_reply_31 rfl ?_
        refine k_get C 37 flX9_92 43 (by decide) (v := .ref (ga g 37)) (ce_wld g _ (show 0 < 2 by decide)) rfl dX9_reply_34 rfl ?_
        refine k_get C 40 flX9_95 37 (by decide) (v := .int ((M) 37 1)) (ce_fld g _ (show 0 < 3 by decide)) rfl dX9_reply_37 rfl ?_
        refine k_teq (y := nI n) hn ?_
        refine k_callVE C 43 (As := [.int (nI n)]) (st := []) 37 (by decide) (ce_fld g _ (show 0 < 3 by decide)) rfl rfl mwX9_253 vlX1_seenAhead (qX1_seenAhead l g M (fi := 0) (by decide) (q := n) (by omega)) mlX1_seenAhead (by decide) (by decide) rfl rfl (Nat.le_of_ble_eq_true rfl) dX9_reply_40 rfl ?_
        refine k_teq (y := (-1)) (by rw [h]; rfl) ?_
        refine k_istore_n C 44 [(3, .int (-1)), (0, .ref (ga g 90)), (1, .int (nI (10 * (TL + 1) + TC))), (2, .int (nI w))] rfl (by decide) rfl dX9_reply_43 rfl ?_
        refine k_iload_n C 45 0 rfl rfl dX9_reply_44 rfl ?_
        refine k_if_ge C 55 48 dX9_reply_45 (by decide) rfl (fun c45 => ?_) (fun d45 => ?_)
        · skip
          exact absurd c45 (by decide)
        · skip
          refine k_aload_n C 49 1 rfl rfl dX9_reply_48 rfl ?_
          refine k_ldc C 51 cwX9_216 dX9_reply_49 rfl ?_
          refine k_callVE C 54 (As := [.int (-1000000003)]) (st := []) 90 (by decide) (ce_90 g _) rfl rfl mwX9_88 vlX9_refuse (qX9_refuse l g M (-1000000003) (k := 3) (by decide) (by decide) (by decide)) mlX9_refuse (by decide) (by decide) rfl rfl (Nat.le_of_ble_eq_true rfl) dX9_reply_51 rfl ?_
          refine k_ret C rfl dX9_reply_54 ?_
          exact ⟨rfl, rfl⟩
      · skip
        have d13 := mt (nI_leI (by omega) (by omega)).mpr (show ¬ (nI w ≤ nI 1) from d13)
        exact absurd d13 (by omega)
set_option maxHeartbeats 4000000 in
set_option maxRecDepth 20000 in
theorem qX9_firstReplyLine (l : Launch) (g : GT) (M : Mem) {k : Nat} (hk : k < 37) {L CR : Nat} (h2 : M k 2 = nI (L + 1)) (h3 : M k 3 = nI CR) (hL : L < 12) (hC : CR < 6) (sL sC : Nat → Nat) (hoL : sOk 12 sL) (hoC : sOk 6 sC) (cL cC : Nat → Nat) (hcL : ∀ i, i < 12 → M 73 i = nI (cL i)) (hcC : ∀ i, i < 6 → M 74 i = nI (cC i)) (h9L : ∀ i, i < 12 → cL i ≤ 99) (h9C : ∀ i, i < 6 → cC i ≤ 99) (hsL : ∀ d, 1 ≤ d → d < 12 → M 71 d = nI (sL d)) (hsC : ∀ d, 1 ≤ d → d < 6 → M 72 d = nI (sC d)) : CtrE l g yX9_firstReplyLine cX9_firstReplyLine 6 (some .int) 1 [.ref (ga g 90), .ref (ga g k)] M (pFR (pFst sL cL L 12 0) (pFst sC cC CR 6 0) L CR) M := by
  refine ctrI_of (by decide +kernel) (Nat.le_of_ble_eq_true rfl) ?_
  intro pP eE RR sS mI aG bB mE cD C
  refine k_lo (lo' := [(0, .ref (ga g 90)), (1, .ref (ga g k))]) rfl ?_
  refine k_aload_n C 1 0 rfl rfl dX9_firstReplyLine_0 rfl ?_
  refine k_get C 4 flX9_45 90 (by decide) (v := .ref (ga g 69)) (ce_90 g _) rfl dX9_firstReplyLine_1 rfl ?_
  refine k_aload_n C 5 1 rfl rfl dX9_firstReplyLine_4 rfl ?_
  refine k_get C 8 flX9_117 k (lt105_fu hk) (v := .int ((M) k 2)) (ce_fu g _ hk) rfl dX9_firstReplyLine_5 rfl ?_
  refine k_teq (y := nI (L + 1)) h2 ?_
  refine k_iconst C 9 (v := 1) (by decide) dX9_firstReplyLine_8 rfl ?_
  refine k_isub C 10 dX9_firstReplyLine_9 rfl ?_
  refine k_teq (y := nI L) (nI_pred L) ?_
  refine k_callVE C 13 (As := [.int (nI L)]) (st := []) 69 (by decide) (ce_sc g _ (show scl 0 12 by unfold scl; omega)) rfl rfl mwX9_344 vlX4_leastFirstStep (qX4_leastFirstStep l g M (t := 0) (n := 12) (Or.inl ⟨rfl, rfl⟩) cL hcL h9L sL hsL hoL (fr := L) hL) mlX4_leastFirstStep (by decide) (by decide) rfl rfl (Nat.le_of_ble_eq_true rfl) dX9_firstReplyLine_10 rfl ?_
  rcases q13 : pFst sL cL L 12 0 with _ | i1
  · skip
    have q13n := q13
    refine k_teq (y := (-1)) rfl ?_
    refine k_istore_n C 14 [(2, .int (-1)), (0, .ref (ga g 90)), (1, .ref (ga g k))] rfl (by decide) rfl dX9_firstReplyLine_13 rfl ?_
    refine k_aload_n C 15 1 rfl rfl dX9_firstReplyLine_14 rfl ?_
    refine k_get C 18 flX9_49 90 (by decide) (v := .ref (ga g 70)) (ce_90 g _) rfl dX9_firstReplyLine_15 rfl ?_
    refine k_aload_n C 19 2 rfl rfl dX9_firstReplyLine_18 rfl ?_
    refine k_get C 22 flX9_120 k (lt105_fu hk) (v := .int ((M) k 3)) (ce_fu g _ hk) rfl dX9_firstReplyLine_19 rfl ?_
    refine k_teq (y := nI CR) h3 ?_
    refine k_callVE C 25 (As := [.int (nI CR)]) (st := []) 70 (by decide) (ce_sc g _ (show scl 1 6 by unfold scl; omega)) rfl rfl mwX9_344 vlX4_leastFirstStep (qX4_leastFirstStep l g M (t := 1) (n := 6) (Or.inr ⟨rfl, rfl⟩) cC hcC h9C sC hsC hoC (fr := CR) hC) mlX4_leastFirstStep (by decide) (by decide) rfl rfl (Nat.le_of_ble_eq_true rfl) dX9_firstReplyLine_22 rfl ?_
    rcases q25 : pFst sC cC CR 6 0 with _ | j1
    · skip
      have q25n := q25
      refine k_teq (y := (-1)) rfl ?_
      refine k_istore_n C 26 [(3, .int (-1)), (2, .int (-1)), (0, .ref (ga g 90)), (1, .ref (ga g k))] rfl (by decide) rfl dX9_firstReplyLine_25 rfl ?_
      refine k_bipush C 28 (v := 10) (by decide) dX9_firstReplyLine_26 rfl ?_
      refine k_iload_n C 29 1 rfl rfl dX9_firstReplyLine_28 rfl ?_
      refine k_iconst C 30 (v := 1) (by decide) dX9_firstReplyLine_29 rfl ?_
      refine k_iadd C 31 dX9_firstReplyLine_30 rfl ?_
      refine k_imul C 32 dX9_firstReplyLine_31 rfl ?_
      refine k_aload_n C 33 3 rfl rfl dX9_firstReplyLine_32 rfl ?_
      refine k_get C 36 flX9_120 k (lt105_fu hk) (v := .int ((M) k 3)) (ce_fu g _ hk) rfl dX9_firstReplyLine_33 rfl ?_
      refine k_teq (y := nI CR) h3 ?_
      refine k_iadd C 37 dX9_firstReplyLine_36 rfl ?_
      refine k_istore C 39 [(4, .int ((10 * ((-1) + 1)) + (nI CR))), (3, .int (-1)), (2, .int (-1)), (0, .ref (ga g 90)), (1, .ref (ga g k))]  (by decide) rfl dX9_firstReplyLine_37 rfl ?_
      refine k_bipush C 41 (v := 10) (by decide) dX9_firstReplyLine_39 rfl ?_
      refine k_aload_n C 42 4 rfl rfl dX9_firstReplyLine_41 rfl ?_
      refine k_get C 45 flX9_117 k (lt105_fu hk) (v := .int ((M) k 2)) (ce_fu g _ hk) rfl dX9_firstReplyLine_42 rfl ?_
      refine k_teq (y := nI (L + 1)) h2 ?_
      refine k_imul C 46 dX9_firstReplyLine_45 rfl ?_
      refine k_teq (pk_mul 10 (L + 1)) ?_
      refine k_iload_n C 47 1 rfl rfl dX9_firstReplyLine_46 rfl ?_
      refine k_iadd C 48 dX9_firstReplyLine_47 rfl ?_
      refine k_istore C 50 [(5, .int ((nI (10 * (L + 1))) + (-1))), (4, .int ((10 * ((-1) + 1)) + (nI CR))), (3, .int (-1)), (2, .int (-1)), (0, .ref (ga g 90)), (1, .ref (ga g k))]  (by decide) rfl dX9_firstReplyLine_48 rfl ?_
      refine k_iload_n C 51 3 rfl rfl dX9_firstReplyLine_50 rfl ?_
      refine k_if_ge C 65 54 dX9_firstReplyLine_51 (by decide) rfl (fun c51 => ?_) (fun d51 => ?_)
      · skip
        exact absurd c51 (by decide)
      · skip
        refine k_iload_n C 55 2 rfl rfl dX9_firstReplyLine_54 rfl ?_
        refine k_if_ge C 62 58 dX9_firstReplyLine_55 (by decide) rfl (fun c55 => ?_) (fun d55 => ?_)
        · skip
          exact absurd c55 (by decide)
        · skip
          refine k_iconst C 59 (v := (-1)) (by decide) dX9_firstReplyLine_58 rfl ?_
          refine k_goto C 64 dX9_firstReplyLine_59 (by decide) ?_
          refine k_ret C rfl dX9_firstReplyLine_64 ?_
          exact ⟨rfl, rfl⟩
    · skip
      have q25s := q25
      refine k_teq (y := nI j1) rfl ?_
      have hj1 := (pFst_lt _ _ _ q25s).2
      refine k_istore_n C 26 [(3, .int (nI j1)), (2, .int (-1)), (0, .ref (ga g 90)), (1, .ref (ga g k))] rfl (by decide) rfl dX9_firstReplyLine_25 rfl ?_
      refine k_bipush C 28 (v := 10) (by decide) dX9_firstReplyLine_26 rfl ?_
      refine k_iload_n C 29 1 rfl rfl dX9_firstReplyLine_28 rfl ?_
      refine k_iconst C 30 (v := 1) (by decide) dX9_firstReplyLine_29 rfl ?_
      refine k_iadd C 31 dX9_firstReplyLine_30 rfl ?_
      refine k_imul C 32 dX9_firstReplyLine_31 rfl ?_
      refine k_aload_n C 33 3 rfl rfl dX9_firstReplyLine_32 rfl ?_
      refine k_get C 36 flX9_120 k (lt105_fu hk) (v := .int ((M) k 3)) (ce_fu g _ hk) rfl dX9_firstReplyLine_33 rfl ?_
      refine k_teq (y := nI CR) h3 ?_
      refine k_iadd C 37 dX9_firstReplyLine_36 rfl ?_
      refine k_istore C 39 [(4, .int ((10 * ((-1) + 1)) + (nI CR))), (3, .int (nI j1)), (2, .int (-1)), (0, .ref (ga g 90)), (1, .ref (ga g k))]  (by decide) rfl dX9_firstReplyLine_37 rfl ?_
      refine k_bipush C 41 (v := 10) (by decide) dX9_firstReplyLine_39 rfl ?_
      refine k_aload_n C 42 4 rfl rfl dX9_firstReplyLine_41 rfl ?_
      refine k_get C 45 flX9_117 k (lt105_fu hk) (v := .int ((M) k 2)) (ce_fu g _ hk) rfl dX9_firstReplyLine_42 rfl ?_
      refine k_teq (y := nI (L + 1)) h2 ?_
      refine k_imul C 46 dX9_firstReplyLine_45 rfl ?_
      refine k_teq (pk_mul 10 (L + 1)) ?_
      refine k_iload_n C 47 1 rfl rfl dX9_firstReplyLine_46 rfl ?_
      refine k_iadd C 48 dX9_firstReplyLine_47 rfl ?_
      refine k_teq (nI_add (10 * (L + 1)) j1) ?_
      refine k_istore C 50 [(5, .int (nI ((10 * (L + 1)) + j1))), (4, .int ((10 * ((-1) + 1)) + (nI CR))), (3, .int (nI j1)), (2, .int (-1)), (0, .ref (ga g 90)), (1, .ref (ga g k))]  (by decide) rfl dX9_firstReplyLine_48 rfl ?_
      refine k_iload_n C 51 3 rfl rfl dX9_firstReplyLine_50 rfl ?_
      refine k_if_ge C 65 54 dX9_firstReplyLine_51 (by decide) rfl (fun c51 => ?_) (fun d51 => ?_)
      · skip
        exact absurd c51 (by decide)
      · skip
        refine k_iload_n C 55 2 rfl rfl dX9_firstReplyLine_54 rfl ?_
        refine k_if_ge C 62 58 dX9_firstReplyLine_55 (by decide) rfl (fun c55 => ?_) (fun d55 => ?_)
        · skip
          have c55 := (nI_leI (by omega) (by omega)).mp (show nI 0 ≤ nI j1 from c55)
          refine k_iload C 64 0  rfl dX9_firstReplyLine_62 rfl ?_
          refine k_ret C rfl dX9_firstReplyLine_64 ?_
          exact ⟨rfl, rfl⟩
        · skip
          have d55 := mt (nI_leI (by omega) (by omega)).mpr (show ¬ (nI 0 ≤ nI j1) from d55)
          exact absurd d55 (by omega)
  · skip
    have q13s := q13
    refine k_teq (y := nI i1) rfl ?_
    have hi1 := (pFst_lt _ _ _ q13s).2
    refine k_istore_n C 14 [(2, .int (nI i1)), (0, .ref (ga g 90)), (1, .ref (ga g k))] rfl (by decide) rfl dX9_firstReplyLine_13 rfl ?_
    refine k_aload_n C 15 1 rfl rfl dX9_firstReplyLine_14 rfl ?_
    refine k_get C 18 flX9_49 90 (by decide) (v := .ref (ga g 70)) (ce_90 g _) rfl dX9_firstReplyLine_15 rfl ?_
    refine k_aload_n C 19 2 rfl rfl dX9_firstReplyLine_18 rfl ?_
    refine k_get C 22 flX9_120 k (lt105_fu hk) (v := .int ((M) k 3)) (ce_fu g _ hk) rfl dX9_firstReplyLine_19 rfl ?_
    refine k_teq (y := nI CR) h3 ?_
    refine k_callVE C 25 (As := [.int (nI CR)]) (st := []) 70 (by decide) (ce_sc g _ (show scl 1 6 by unfold scl; omega)) rfl rfl mwX9_344 vlX4_leastFirstStep (qX4_leastFirstStep l g M (t := 1) (n := 6) (Or.inr ⟨rfl, rfl⟩) cC hcC h9C sC hsC hoC (fr := CR) hC) mlX4_leastFirstStep (by decide) (by decide) rfl rfl (Nat.le_of_ble_eq_true rfl) dX9_firstReplyLine_22 rfl ?_
    rcases q25 : pFst sC cC CR 6 0 with _ | j1
    · skip
      have q25n := q25
      refine k_teq (y := (-1)) rfl ?_
      refine k_istore_n C 26 [(3, .int (-1)), (2, .int (nI i1)), (0, .ref (ga g 90)), (1, .ref (ga g k))] rfl (by decide) rfl dX9_firstReplyLine_25 rfl ?_
      refine k_bipush C 28 (v := 10) (by decide) dX9_firstReplyLine_26 rfl ?_
      refine k_iload_n C 29 1 rfl rfl dX9_firstReplyLine_28 rfl ?_
      refine k_iconst C 30 (v := 1) (by decide) dX9_firstReplyLine_29 rfl ?_
      refine k_iadd C 31 dX9_firstReplyLine_30 rfl ?_
      refine k_teq (nI_add i1 1) ?_
      refine k_imul C 32 dX9_firstReplyLine_31 rfl ?_
      refine k_teq (pk_mul 10 (i1 + 1)) ?_
      refine k_aload_n C 33 3 rfl rfl dX9_firstReplyLine_32 rfl ?_
      refine k_get C 36 flX9_120 k (lt105_fu hk) (v := .int ((M) k 3)) (ce_fu g _ hk) rfl dX9_firstReplyLine_33 rfl ?_
      refine k_teq (y := nI CR) h3 ?_
      refine k_iadd C 37 dX9_firstReplyLine_36 rfl ?_
      refine k_teq (nI_add (10 * (i1 + 1)) CR) ?_
      refine k_istore C 39 [(4, .int (nI ((10 * (i1 + 1)) + CR))), (3, .int (-1)), (2, .int (nI i1)), (0, .ref (ga g 90)), (1, .ref (ga g k))]  (by decide) rfl dX9_firstReplyLine_37 rfl ?_
      refine k_bipush C 41 (v := 10) (by decide) dX9_firstReplyLine_39 rfl ?_
      refine k_aload_n C 42 4 rfl rfl dX9_firstReplyLine_41 rfl ?_
      refine k_get C 45 flX9_117 k (lt105_fu hk) (v := .int ((M) k 2)) (ce_fu g _ hk) rfl dX9_firstReplyLine_42 rfl ?_
      refine k_teq (y := nI (L + 1)) h2 ?_
      refine k_imul C 46 dX9_firstReplyLine_45 rfl ?_
      refine k_teq (pk_mul 10 (L + 1)) ?_
      refine k_iload_n C 47 1 rfl rfl dX9_firstReplyLine_46 rfl ?_
      refine k_iadd C 48 dX9_firstReplyLine_47 rfl ?_
      refine k_istore C 50 [(5, .int ((nI (10 * (L + 1))) + (-1))), (4, .int (nI ((10 * (i1 + 1)) + CR))), (3, .int (-1)), (2, .int (nI i1)), (0, .ref (ga g 90)), (1, .ref (ga g k))]  (by decide) rfl dX9_firstReplyLine_48 rfl ?_
      refine k_iload_n C 51 3 rfl rfl dX9_firstReplyLine_50 rfl ?_
      refine k_if_ge C 65 54 dX9_firstReplyLine_51 (by decide) rfl (fun c51 => ?_) (fun d51 => ?_)
      · skip
        have c51 := (nI_leI (by omega) (by omega)).mp (show nI 0 ≤ nI i1 from c51)
        refine k_iload_n C 66 2 rfl rfl dX9_firstReplyLine_65 rfl ?_
        refine k_if_ge C 74 69 dX9_firstReplyLine_66 (by decide) rfl (fun c66 => ?_) (fun d66 => ?_)
        · skip
          exact absurd c66 (by decide)
        · skip
          refine k_iload C 71 1  rfl dX9_firstReplyLine_69 rfl ?_
          refine k_goto C 81 dX9_firstReplyLine_71 (by decide) ?_
          refine k_ret C rfl dX9_firstReplyLine_81 ?_
          exact ⟨rfl, rfl⟩
      · skip
        have d51 := mt (nI_leI (by omega) (by omega)).mpr (show ¬ (nI 0 ≤ nI i1) from d51)
        exact absurd d51 (by omega)
    · skip
      have q25s := q25
      refine k_teq (y := nI j1) rfl ?_
      have hj1 := (pFst_lt _ _ _ q25s).2
      refine k_istore_n C 26 [(3, .int (nI j1)), (2, .int (nI i1)), (0, .ref (ga g 90)), (1, .ref (ga g k))] rfl (by decide) rfl dX9_firstReplyLine_25 rfl ?_
      refine k_bipush C 28 (v := 10) (by decide) dX9_firstReplyLine_26 rfl ?_
      refine k_iload_n C 29 1 rfl rfl dX9_firstReplyLine_28 rfl ?_
      refine k_iconst C 30 (v := 1) (by decide) dX9_firstReplyLine_29 rfl ?_
      refine k_iadd C 31 dX9_firstReplyLine_30 rfl ?_
      refine k_teq (nI_add i1 1) ?_
      refine k_imul C 32 dX9_firstReplyLine_31 rfl ?_
      refine k_teq (pk_mul 10 (i1 + 1)) ?_
      refine k_aload_n C 33 3 rfl rfl dX9_firstReplyLine_32 rfl ?_
      refine k_get C 36 flX9_120 k (lt105_fu hk) (v := .int ((M) k 3)) (ce_fu g _ hk) rfl dX9_firstReplyLine_33 rfl ?_
      refine k_teq (y := nI CR) h3 ?_
      refine k_iadd C 37 dX9_firstReplyLine_36 rfl ?_
      refine k_teq (nI_add (10 * (i1 + 1)) CR) ?_
      refine k_istore C 39 [(4, .int (nI ((10 * (i1 + 1)) + CR))), (3, .int (nI j1)), (2, .int (nI i1)), (0, .ref (ga g 90)), (1, .ref (ga g k))]  (by decide) rfl dX9_firstReplyLine_37 rfl ?_
      refine k_bipush C 41 (v := 10) (by decide) dX9_firstReplyLine_39 rfl ?_
      refine k_aload_n C 42 4 rfl rfl dX9_firstReplyLine_41 rfl ?_
      refine k_get C 45 flX9_117 k (lt105_fu hk) (v := .int ((M) k 2)) (ce_fu g _ hk) rfl dX9_firstReplyLine_42 rfl ?_
      refine k_teq (y := nI (L + 1)) h2 ?_
      refine k_imul C 46 dX9_firstReplyLine_45 rfl ?_
      refine k_teq (pk_mul 10 (L + 1)) ?_
      refine k_iload_n C 47 1 rfl rfl dX9_firstReplyLine_46 rfl ?_
      refine k_iadd C 48 dX9_firstReplyLine_47 rfl ?_
      refine k_teq (nI_add (10 * (L + 1)) j1) ?_
      refine k_istore C 50 [(5, .int (nI ((10 * (L + 1)) + j1))), (4, .int (nI ((10 * (i1 + 1)) + CR))), (3, .int (nI j1)), (2, .int (nI i1)), (0, .ref (ga g 90)), (1, .ref (ga g k))]  (by decide) rfl dX9_firstReplyLine_48 rfl ?_
      refine k_iload_n C 51 3 rfl rfl dX9_firstReplyLine_50 rfl ?_
      refine k_if_ge C 65 54 dX9_firstReplyLine_51 (by decide) rfl (fun c51 => ?_) (fun d51 => ?_)
      · skip
        have c51 := (nI_leI (by omega) (by omega)).mp (show nI 0 ≤ nI i1 from c51)
        refine k_iload_n C 66 2 rfl rfl dX9_firstReplyLine_65 rfl ?_
        refine k_if_ge C 74 69 dX9_firstReplyLine_66 (by decide) rfl (fun c66 => ?_) (fun d66 => ?_)
        · skip
          have c66 := (nI_leI (by omega) (by omega)).mp (show nI 0 ≤ nI j1 from c66)
          refine k_iload C 76 1  rfl dX9_firstReplyLine_74 rfl ?_
          refine k_iload C 78 0  rfl dX9_firstReplyLine_76 rfl ?_
          refine k_mmin C 81 mwX9_325 (Nat.le_of_ble_eq_true rfl) dX9_firstReplyLine_78 rfl ?_
          refine k_teq (nI_min (a := (10 * (i1 + 1)) + CR) (b := (10 * (L + 1)) + j1) (by omega) (by omega)) ?_
          refine k_ret C rfl dX9_firstReplyLine_81 ?_
          exact ⟨rfl, rfl⟩
        · skip
          have d66 := mt (nI_leI (by omega) (by omega)).mpr (show ¬ (nI 0 ≤ nI j1) from d66)
          exact absurd d66 (by omega)
      · skip
        have d51 := mt (nI_leI (by omega) (by omega)).mpr (show ¬ (nI 0 ≤ nI i1) from d51)
        exact absurd d51 (by omega)
set_option maxHeartbeats 4000000 in
set_option maxRecDepth 20000 in
theorem qX9_reply_t (l : Launch) (g : GT) (M : Mem) {n : Nat} (hn : M 37 1 = nI n) (h12 : n ≤ 12) {TL TC : Nat} (hTL : TL < 12) (hTC : TC < 6) (hx : pLine (nI (10 * (TL + 1) + TC)) = true) {w : Nat} (hw : w < 2) {a : Nat} (ha : pAhead (fF M 0) n = some a) {L CR : Nat} (hL2 : M a 2 = nI (L + 1)) (hL3 : M a 3 = nI CR) (hLb : L < 12) (hCb : CR < 6) {n1 : Nat} (hLw : lawOk M 0 n1) (sL sC : Nat → Nat) (hoL : sOk 12 sL) (hoC : sOk 6 sC) (gL : ∀ d, 1 ≤ d → d < 12 → pGive 0 n1 (M 52) (nI d) 0 (M 37 3) = nI (sL d)) (gC : ∀ d, 1 ≤ d → d < 6 → pGive 0 n1 (M 52) 0 (nI d) (M 37 3) = nI (sC d)) : CtrI l g yX9_reply cX9_reply 5 (some .int) 4 [.ref (ga g 90), .int (nI (10 * (TL + 1) + TC)), .int (nI w)] M (fun r M1 => ∃ cL cC, isD 12 sL TL cL ∧ isD 6 sC TC cC ∧ (∀ a k, ¬ lawS a k → ¬ (71 ≤ a ∧ a < 77) → M1 a k = M a k) ∧ r = (if w = 0 then nI (cL L + cC CR) else pFR (pFst sL cL L 12 0) (pFst sC cC CR 6 0) L CR)) := by
  refine ctrI_of (by decide +kernel) (Nat.le_of_ble_eq_true rfl) ?_
  intro pP eE RR sS mI aG bB mE cD C
  refine k_lo (lo' := [(0, .ref (ga g 90)), (1, .int (nI (10 * (TL + 1) + TC))), (2, .int (nI w))]) rfl ?_
  have han := (pAhead_in _ _ _ ha).1
  refine k_iload_n C 1 1 rfl rfl dX9_reply_0 rfl ?_
  refine k_callSE C 4 (As := [.int (nI (10 * (TL + 1) + TC))]) (st := []) mwX9_81 skX9_isLine (qX9_isLine l g M (nI (10 * (TL + 1) + TC))) mlX9_isLine (by decide) (by decide) rfl rfl (Nat.le_of_ble_eq_true rfl) dX9_reply_1 rfl ?_
  refine k_if_eqB C 16 7 dX9_reply_4 (by decide) rfl (fun c4 => ?_) (fun d4 => ?_)
  · skip
    exact (bz c4 hx).elim
  · skip
    refine k_iload_n C 8 2 rfl rfl dX9_reply_7 rfl ?_
    refine k_if_lt C 16 11 dX9_reply_8 (by decide) rfl (fun c8 => ?_) (fun d8 => ?_)
    · skip
      have c8 := (nI_ltI (by omega) (by omega)).mp (show nI w < nI 0 from c8)
      exact absurd c8 (by omega)
    · skip
      have d8 := mt (nI_ltI (by omega) (by omega)).mpr (show ¬ (nI w < nI 0) from d8)
      refine k_iload_n C 12 2 rfl rfl dX9_reply_11 rfl ?_
      refine k_iconst C 13 (v := 1) (by decide) dX9_reply_12 rfl ?_
      refine k_icmp_le C 23 16 dX9_reply_13 (by decide) rfl (fun c13 => ?_) (fun d13 => ?_)
      · skip
        have c13 := (nI_leI (by omega) (by omega)).mp (show nI w ≤ nI 1 from c13)
        refine k_aload_n C 24 0 rfl rfl dX9_reply_23 rfl ?_
        refine k_get C 27 flX9_12 90 (by decide) (v := .ref (ga g 43)) (ce_90 g _) rfl dX9_reply_24 rfl ?_
        refine k_get C 30 flX9_92 43 (by decide) (v := .ref (ga g 37)) (ce_wld g _ (show 0 < 2 by decide)) rfl dX9_reply_27 rfl ?_
        refine k_aload_n C 31 0 rfl rfl dX9_reply_30 rfl ?_
        refine k_get C 34 flX9_12 90 (by decide) (v := .ref (ga g 43)) (ce_90 g _) rfl dX9_reply_31 rfl ?_
        refine k_get C 37 flX9_92 43 (by decide) (v := .ref (ga g 37)) (ce_wld g _ (show 0 < 2 by decide)) rfl dX9_reply_34 rfl ?_
        refine k_get C 40 flX9_95 37 (by decide) (v := .int ((M) 37 1)) (ce_fld g _ (show 0 < 3 by decide)) rfl dX9_reply_37 rfl ?_
        refine k_teq (y := nI n) hn ?_
        refine k_callVE C 43 (As := [.int (nI n)]) (st := []) 37 (by decide) (ce_fld g _ (show 0 < 3 by decide)) rfl rfl mwX9_253 vlX1_seenAhead (qX1_seenAhead l g M (fi := 0) (by decide) (q := n) (by omega)) mlX1_seenAhead (by decide) (by decide) rfl rfl (Nat.le_of_ble_eq_true rfl) dX9_reply_40 rfl ?_
        refine k_teq (y := nI a) (by rw [ha]; rfl) ?_
        refine k_istore_n C 44 [(3, .int (nI a)), (0, .ref (ga g 90)), (1, .int (nI (10 * (TL + 1) + TC))), (2, .int (nI w))] rfl (by decide) rfl dX9_reply_43 rfl ?_
        refine k_iload_n C 45 0 rfl rfl dX9_reply_44 rfl ?_
        refine k_if_ge C 55 48 dX9_reply_45 (by decide) rfl (fun c45 => ?_) (fun d45 => ?_)
        · skip
          have c45 := (nI_leI (by omega) (by omega)).mp (show nI 0 ≤ nI a from c45)
          refine k_iconst C 56 (v := 1) (by decide) dX9_reply_55 rfl ?_
          refine k_istore C 58 [(4, .int 1), (3, .int (nI a)), (0, .ref (ga g 90)), (1, .int (nI (10 * (TL + 1) + TC))), (2, .int (nI w))]  (by decide) rfl dX9_reply_56 rfl ?_
          refine k_sub [(0, .ref (ga g 90)), (1, .int (nI (10 * (TL + 1) + TC))), (2, .int (nI w)), (3, .int (nI a)), (4, .int 1)] [2, 3, 4, 1, 0] rfl ?_
          refine k_all (M' := M) (lo' := [(0, .ref (ga g 90)), (1, .int (nI (10 * (TL + 1) + TC))), (2, .int (nI w)), (3, .int (nI a)), (4, .int (nI 1))]) (st' := []) (by rfl) (by rfl) rfl ?_
          refine k_loop (σ := Nat × Mem) (fun (v : Nat × Mem) => match v with | (d, M1) => (1 ≤ d) ∧ (d ≤ 12) ∧ (∀ a k, ¬ lawS a k → ¬ (71 ≤ a ∧ a < 77) → M1 a k = M a k) ∧ (∀ q, 1 ≤ q → q < d → M1 71 q = nI (sL q))) (fun (v : Nat × Mem) => match v with | (d, M1) => 12 - d) (fun (v : Nat × Mem) => match v with | (d, M1) => M1) (fun (v : Nat × Mem) => match v with | (d, M1) => [(0, .ref (ga g 90)), (1, .int (nI (10 * (TL + 1) + TC))), (2, .int (nI w)), (3, .int (nI a)), (4, .int (nI d))]) (1, M) (show (1 ≤ 1) ∧ (1 ≤ 12) ∧ (∀ a k, ¬ lawS a k → ¬ (71 ≤ a ∧ a < 77) → M a k = M a k) ∧ (∀ q, 1 ≤ q → q < 1 → M 71 q = nI (sL q)) from by exact ⟨Nat.le_refl _, by omega, fun _ _ _ _ => rfl, fun q q1 q2 => by exfalso; omega⟩) ?_
          rintro ⟨d, M1⟩ hI ih
          have hI : (1 ≤ d) ∧ (d ≤ 12) ∧ (∀ a k, ¬ lawS a k → ¬ (71 ≤ a ∧ a < 77) → M1 a k = M a k) ∧ (∀ q, 1 ≤ q → q < d → M1 71 q = nI (sL q)) := hI
          obtain ⟨h1, hd, hA, hsL⟩ := hI
          show KW pP l eE RR sS mI aG bB mE cD g 5 _ (M1) 58 [(0, .ref (ga g 90)), (1, .int (nI (10 * (TL + 1) + TC))), (2, .int (nI w)), (3, .int (nI a)), (4, .int (nI d))] []
          refine k_iload C 60 4  rfl dX9_reply_58 rfl ?_
          refine k_bipush C 62 (v := 12) (by decide) dX9_reply_60 rfl ?_
          refine k_icmp_ge C 102 65 dX9_reply_62 (by decide) rfl (fun c62 => ?_) (fun d62 => ?_)
          · skip
            have c62 := (nI_leI (by omega) (by omega)).mp (show nI 12 ≤ nI d from c62)
            refine k_iconst C 103 (v := 1) (by decide) dX9_reply_102 rfl ?_
            refine k_istore C 105 [(4, .int 1), (0, .ref (ga g 90)), (1, .int (nI (10 * (TL + 1) + TC))), (2, .int (nI w)), (3, .int (nI a))]  (by decide) rfl dX9_reply_103 rfl ?_
            refine k_sub [(0, .ref (ga g 90)), (1, .int (nI (10 * (TL + 1) + TC))), (2, .int (nI w)), (3, .int (nI a)), (4, .int 1)] [1, 2, 3, 4, 0] rfl ?_
            refine k_all (M' := M1) (lo' := [(0, .ref (ga g 90)), (1, .int (nI (10 * (TL + 1) + TC))), (2, .int (nI w)), (3, .int (nI a)), (4, .int (nI 1))]) (st' := []) (by rfl) (by rfl) rfl ?_
            refine k_loop (σ := Nat × Mem) (fun (v : Nat × Mem) => match v with | (d, M3) => (1 ≤ d) ∧ (d ≤ 6) ∧ (∀ a k, ¬ lawS a k → ¬ (71 ≤ a ∧ a < 77) → M3 a k = M a k) ∧ (∀ q, 1 ≤ q → q < d → M3 72 q = nI (sC q)) ∧ (∀ q, 1 ≤ q → q < 12 → M3 71 q = nI (sL q))) (fun (v : Nat × Mem) => match v with | (d, M3) => 6 - d) (fun (v : Nat × Mem) => match v with | (d, M3) => M3) (fun (v : Nat × Mem) => match v with | (d, M3) => [(0, .ref (ga g 90)), (1, .int (nI (10 * (TL + 1) + TC))), (2, .int (nI w)), (3, .int (nI a)), (4, .int (nI d))]) (1, M1) (show (1 ≤ 1) ∧ (1 ≤ 6) ∧ (∀ a k, ¬ lawS a k → ¬ (71 ≤ a ∧ a < 77) → M1 a k = M a k) ∧ (∀ q, 1 ≤ q → q < 1 → M1 72 q = nI (sC q)) ∧ (∀ q, 1 ≤ q → q < 12 → M1 71 q = nI (sL q)) from by exact ⟨Nat.le_refl _, by omega, hA, fun q q1 q2 => by exfalso; omega, fun q q1 q2 => hsL q q1 (by omega)⟩) ?_
            rintro ⟨d, M3⟩ hI ih
            have hI : (1 ≤ d) ∧ (d ≤ 6) ∧ (∀ a k, ¬ lawS a k → ¬ (71 ≤ a ∧ a < 77) → M3 a k = M a k) ∧ (∀ q, 1 ≤ q → q < d → M3 72 q = nI (sC q)) ∧ (∀ q, 1 ≤ q → q < 12 → M3 71 q = nI (sL q)) := hI
            obtain ⟨h1, hd, hA, hsC, hsL⟩ := hI
            show KW pP l eE RR sS mI aG bB mE cD g 5 _ (M3) 105 [(0, .ref (ga g 90)), (1, .int (nI (10 * (TL + 1) + TC))), (2, .int (nI w)), (3, .int (nI a)), (4, .int (nI d))] []
            refine k_iload C 107 4  rfl dX9_reply_105 rfl ?_
            refine k_bipush C 109 (v := 6) (by decide) dX9_reply_107 rfl ?_
            refine k_icmp_ge C 149 112 dX9_reply_109 (by decide) rfl (fun c109 => ?_) (fun d109 => ?_)
            · skip
              have c109 := (nI_leI (by omega) (by omega)).mp (show nI 6 ≤ nI d from c109)
              refine k_aload_n C 150 0 rfl rfl dX9_reply_149 rfl ?_
              refine k_get C 153 flX9_45 90 (by decide) (v := .ref (ga g 69)) (ce_90 g _) rfl dX9_reply_150 rfl ?_
              refine k_iload_n C 154 1 rfl rfl dX9_reply_153 rfl ?_
              refine k_bipush C 156 (v := 10) (by decide) dX9_reply_154 rfl ?_
              refine k_idiv C 157 (by decide) dX9_reply_156 rfl ?_
              refine k_teq (pk_div (a := 10 * (TL + 1) + TC) (d := 10) (by omega) (by decide) (by decide)) ?_
              refine k_iconst C 158 (v := 1) (by decide) dX9_reply_157 rfl ?_
              refine k_isub C 159 dX9_reply_158 rfl ?_
              refine k_teq (y := nI TL) (by rw [show (10 * (TL + 1) + TC) / 10 = TL + 1 by omega]; exact nI_pred TL) ?_
              refine k_callVV C 162 (As := [.int (nI TL)]) (st := []) 69 (by decide) (ce_sc g _ (show scl 0 12 by unfold scl; omega)) rfl rfl mwX9_259 vlX4_measureTo (qX4_measureTo l g M3 (t := 0) (n := 12) (Or.inl ⟨rfl, rfl⟩) sL (fun d h1 h2 => hsL d h1 h2) hoL (gl := TL) (by omega)) mlX4_measureTo (by decide) (by decide) rfl rfl (Nat.le_of_ble_eq_true rfl) dX9_reply_159 rfl (fun M5 hM5 => ?_)
              obtain ⟨⟨cL, hcL, hDL⟩, hFM5⟩ := hM5
              refine k_aload_n C 163 0 rfl rfl dX9_reply_162 rfl ?_
              refine k_get C 166 flX9_49 90 (by decide) (v := .ref (ga g 70)) (ce_90 g _) rfl dX9_reply_163 rfl ?_
              refine k_iload_n C 167 1 rfl rfl dX9_reply_166 rfl ?_
              refine k_bipush C 169 (v := 10) (by decide) dX9_reply_167 rfl ?_
              refine k_irem C 170 (by decide) dX9_reply_169 rfl ?_
              refine k_teq (pk_rem (a := 10 * (TL + 1) + TC) (d := 10) (by omega) (by decide) (by decide)) ?_
              refine k_teq (y := nI TC) (by rw [show (10 * (TL + 1) + TC) % 10 = TC by omega]) ?_
              refine k_callVV C 173 (As := [.int (nI TC)]) (st := []) 70 (by decide) (ce_sc g _ (show scl 1 6 by unfold scl; omega)) rfl rfl mwX9_259 vlX4_measureTo (qX4_measureTo l g M5 (t := 1) (n := 6) (Or.inr ⟨rfl, rfl⟩) sC (fun d h1 h2 => by rw [hFM5 72 (by decide) (by decide)]; exact hsC d h1 (by omega)) hoC (gl := TC) (by omega)) mlX4_measureTo (by decide) (by decide) rfl rfl (Nat.le_of_ble_eq_true rfl) dX9_reply_170 rfl (fun M6 hM6 => ?_)
              obtain ⟨⟨cC, hcC, hDC⟩, hFM6⟩ := hM6
              refine k_aload_n C 174 0 rfl rfl dX9_reply_173 rfl ?_
              refine k_get C 177 flX9_12 90 (by decide) (v := .ref (ga g 43)) (ce_90 g _) rfl dX9_reply_174 rfl ?_
              refine k_get C 180 flX9_92 43 (by decide) (v := .ref (ga g 37)) (ce_wld g _ (show 0 < 2 by decide)) rfl dX9_reply_177 rfl ?_
              refine k_get C 183 flX9_107 37 (by decide) (v := .ref (ga g 40)) (ce_fld g _ (show 0 < 3 by decide)) rfl dX9_reply_180 rfl ?_
              refine k_iload_n C 184 3 rfl rfl dX9_reply_183 rfl ?_
              refine k_aald C 185 40 a 3 (by decide) (ce_fa g _ (show 0 < 3 by decide)) rfl (by decide) rfl (by omega) dX9_reply_184 rfl ?_
              refine k_st (st' := [.ref (ga g a)]) (by simp only [Nat.mul_zero, Nat.zero_add]) ?_
              refine k_astore C 187 [(4, .ref (ga g a)), (0, .ref (ga g 90)), (1, .int (nI (10 * (TL + 1) + TC))), (2, .int (nI w)), (3, .int (nI a))]  (by decide) rfl dX9_reply_185 rfl ?_
              refine k_iload_n C 188 3 rfl rfl dX9_reply_187 rfl ?_
              refine k_if_ne C 221 191 dX9_reply_188 (by decide) rfl (fun c188 => ?_) (fun d188 => ?_)
              · skip
                have c188 := mt (nI_eq (by omega) (by omega)).mpr (show ¬ (nI w = nI 0) from c188)
                refine k_aload_n C 222 1 rfl rfl dX9_reply_221 rfl ?_
                refine k_aload C 224 0  rfl dX9_reply_222 rfl ?_
                refine k_callVE C 227 (As := [.ref (ga g a)]) (st := []) 90 (by decide) (ce_90 g _) rfl rfl mwX9_265 vlX9_firstReplyLine (qX9_firstReplyLine l g M6 (k := a) (by omega) (by rw [hFM6 a (by omega) (by omega), hFM5 a (by omega) (by omega)]; exact (hA a 2 (by unfold lawS; omega) (by omega)).trans hL2) (by rw [hFM6 a (by omega) (by omega), hFM5 a (by omega) (by omega)]; exact (hA a 3 (by unfold lawS; omega) (by omega)).trans hL3) hLb hCb sL sC hoL hoC cL cC (fun i hi => by rw [hFM6 73 (by decide) (by decide)]; exact hcL i hi) hcC hDL.2.2.2 hDC.2.2.2 (fun d h1 h2 => by rw [hFM6 71 (by decide) (by decide), hFM5 71 (by decide) (by decide)]; exact hsL d h1 h2) (fun d h1 h2 => by rw [hFM6 72 (by decide) (by decide), hFM5 72 (by decide) (by decide)]; exact hsC d h1 (by omega))) mlX9_firstReplyLine (by decide) (by decide) rfl rfl (Nat.le_of_ble_eq_true rfl) dX9_reply_224 rfl ?_
                refine k_ret C rfl dX9_reply_227 ?_
                exact ⟨cL, cC, hDL, hDC, fun a k q1 q2 => by rw [hFM6 a (by omega) (by omega), hFM5 a (by omega) (by omega)]; exact hA a k q1 q2, (if_neg c188).symm⟩
              · skip
                have d188 := (nI_eq (by omega) (by omega)).mp (show nI w = nI 0 from d188)
                refine k_aload_n C 192 1 rfl rfl dX9_reply_191 rfl ?_
                refine k_get C 195 flX9_45 90 (by decide) (v := .ref (ga g 69)) (ce_90 g _) rfl dX9_reply_192 rfl ?_
                refine k_get C 198 flX9_262 69 (by decide) (v := .ref (ga g 73)) (ce_sc g _ (show scl 0 12 by unfold scl; omega)) rfl dX9_reply_195 rfl ?_
                refine k_aload C 200 0  rfl dX9_reply_198 rfl ?_
                refine k_get C 203 flX9_117 a (lt105_fu (by omega)) (v := .int ((M6) a 2)) (ce_fu g _ (by omega)) rfl dX9_reply_200 rfl ?_
                refine k_teq (y := nI (L + 1)) (by rw [hFM6 a (by omega) (by omega), hFM5 a (by omega) (by omega)]; exact (hA a 2 (by unfold lawS; omega) (by omega)).trans hL2) ?_
                refine k_iconst C 204 (v := 1) (by decide) dX9_reply_203 rfl ?_
                refine k_isub C 205 dX9_reply_204 rfl ?_
                refine k_teq (y := nI L) (nI_pred L) ?_
                refine k_iald C 206 73 L (by decide) (ce_sco g (show scl 0 12 by unfold scl; omega)) (by rcases (show scl 0 12 by unfold scl; omega) with ⟨_, h⟩ | ⟨_, h⟩ <;> omega) rfl (by omega) dX9_reply_205 rfl ?_
                refine k_teq (y := nI (cL L)) (by rw [hFM6 73 (by decide) (by decide)]; exact hcL L hLb) ?_
                refine k_aload_n C 207 1 rfl rfl dX9_reply_206 rfl ?_
                refine k_get C 210 flX9_49 90 (by decide) (v := .ref (ga g 70)) (ce_90 g _) rfl dX9_reply_207 rfl ?_
                refine k_get C 213 flX9_262 70 (by decide) (v := .ref (ga g 74)) (ce_sc g _ (show scl 1 6 by unfold scl; omega)) rfl dX9_reply_210 rfl ?_
                refine k_aload C 215 0  rfl dX9_reply_213 rfl ?_
                refine k_get C 218 flX9_120 a (lt105_fu (by omega)) (v := .int ((M6) a 3)) (ce_fu g _ (by omega)) rfl dX9_reply_215 rfl ?_
                refine k_teq (y := nI CR) (by rw [hFM6 a (by omega) (by omega), hFM5 a (by omega) (by omega)]; exact (hA a 3 (by unfold lawS; omega) (by omega)).trans hL3) ?_
                refine k_iald C 219 74 CR (by decide) (ce_sco g (show scl 1 6 by unfold scl; omega)) (by rcases (show scl 1 6 by unfold scl; omega) with ⟨_, h⟩ | ⟨_, h⟩ <;> omega) rfl (by omega) dX9_reply_218 rfl ?_
                refine k_teq (y := nI (cC CR)) (hcC CR hCb) ?_
                refine k_iadd C 220 dX9_reply_219 rfl ?_
                refine k_teq (nI_add (cL L) (cC CR)) ?_
                refine k_ret C rfl dX9_reply_220 ?_
                exact ⟨cL, cC, hDL, hDC, fun a k q1 q2 => by rw [hFM6 a (by omega) (by omega), hFM5 a (by omega) (by omega)]; exact hA a k q1 q2, (if_pos d188).symm⟩
            · skip
              have d109 := mt (nI_leI (by omega) (by omega)).mpr (show ¬ (nI 6 ≤ nI d) from d109)
              refine k_aload_n C 113 0 rfl rfl dX9_reply_112 rfl ?_
              refine k_get C 116 flX9_49 90 (by decide) (v := .ref (ga g 70)) (ce_90 g _) rfl dX9_reply_113 rfl ?_
              refine k_get C 119 flX9_256 70 (by decide) (v := .ref (ga g 72)) (ce_sc g _ (show scl 1 6 by unfold scl; omega)) rfl dX9_reply_116 rfl ?_
              refine k_iload C 121 4  rfl dX9_reply_119 rfl ?_
              refine k_aload_n C 122 0 rfl rfl dX9_reply_121 rfl ?_
              refine k_get C 125 flX9_12 90 (by decide) (v := .ref (ga g 43)) (ce_90 g _) rfl dX9_reply_122 rfl ?_
              refine k_iconst C 126 (v := 0) (by decide) dX9_reply_125 rfl ?_
              refine k_iconst C 127 (v := 0) (by decide) dX9_reply_126 rfl ?_
              refine k_iload C 129 4  rfl dX9_reply_127 rfl ?_
              refine k_aload_n C 130 0 rfl rfl dX9_reply_129 rfl ?_
              refine k_get C 133 flX9_12 90 (by decide) (v := .ref (ga g 43)) (ce_90 g _) rfl dX9_reply_130 rfl ?_
              refine k_get C 136 flX9_92 43 (by decide) (v := .ref (ga g 37)) (ce_wld g _ (show 0 < 2 by decide)) rfl dX9_reply_133 rfl ?_
              refine k_get C 139 flX9_168 37 (by decide) (v := .int ((M3) 37 3)) (ce_fld g _ (show 0 < 3 by decide)) rfl dX9_reply_136 rfl ?_
              refine k_teq (y := M 37 3) (hA 37 3 (by unfold lawS; omega) (by omega)) ?_
              refine k_callVI C 142 (As := [.int 0, .int 0, .int (nI d), .int (M 37 3)]) (st := [.int (nI d), .ref (ga g 72)]) 43 (by decide) (ce_wld g _ (show 0 < 2 by decide)) rfl rfl mwX9_209 vlX8_giveUse (qX8_giveUse l g M3 (w := 0) (by decide) (u := 0) (by decide) (n := n1) (lawOk_f hLw hA) 0 (nI d) (M 37 3)) mlX8_giveUse (by decide) (by decide) rfl rfl (Nat.le_of_ble_eq_true rfl) dX9_reply_139 rfl (fun r2 M2 h2 => ?_)
              obtain ⟨hr2, hs2⟩ := h2
              rw [show M3 (52 + (2 * 0 + 0)) = M 52 from funext fun k => hA 52 k (by unfold lawS; omega) (by omega)] at hr2
              refine k_iast C 143 72 d (by decide) (ce_sst g (show scl 1 6 by unfold scl; omega)) (by rcases (show scl 1 6 by unfold scl; omega) with ⟨_, h⟩ | ⟨_, h⟩ <;> omega) rfl (by omega) dX9_reply_142 rfl ?_
              refine k_iinc C 146 (nI (d + 1)) 4 [(4, .int (nI (d + 1))), (0, .ref (ga g 90)), (1, .int (nI (10 * (TL + 1) + TC))), (2, .int (nI w)), (3, .int (nI a))] rfl (iinc_p d) (by decide) rfl dX9_reply_143 rfl ?_
              refine k_goto C 105 dX9_reply_146 (by decide) ?_
              refine k_sub [(0, .ref (ga g 90)), (1, .int (nI (10 * (TL + 1) + TC))), (2, .int (nI w)), (3, .int (nI a)), (4, .int (nI (d + 1)))] [1, 2, 3, 4, 0] rfl ?_
              refine k_all (M' := (mu M2 72 d r2)) (lo' := [(0, .ref (ga g 90)), (1, .int (nI (10 * (TL + 1) + TC))), (2, .int (nI w)), (3, .int (nI a)), (4, .int (nI (d + 1)))]) (st' := []) (by rfl) (by rfl) rfl ?_
              exact ih (d + 1, mu M2 72 d r2) (show (1 ≤ (d + 1)) ∧ ((d + 1) ≤ 6) ∧ (∀ a k, ¬ lawS a k → ¬ (71 ≤ a ∧ a < 77) → (mu M2 72 d r2) a k = M a k) ∧ (∀ q, 1 ≤ q → q < (d + 1) → (mu M2 72 d r2) 72 q = nI (sC q)) ∧ (∀ q, 1 ≤ q → q < 12 → (mu M2 72 d r2) 71 q = nI (sL q)) from by exact ⟨by omega, by omega, fun a k q1 q2 => by rw [mu_n _ _ _ (by omega), hs2 a k q1]; exact hA a k q1 q2, fun q q1 q2 => by
                by_cases e : q = d
                · subst e; rw [mu_s, hr2]; exact gC q q1 (by omega)
                · rw [mu_o _ _ _ e, hs2 _ _ (by unfold lawS; omega)]; exact hsC q q1 (by omega), fun q q1 q2 => by
                rw [mu_n _ _ _ (by decide), hs2 _ _ (by unfold lawS; omega)]; exact hsL q q1 q2⟩) (by show 6 - (d + 1) < 6 - d; omega)
          · skip
            have d62 := mt (nI_leI (by omega) (by omega)).mpr (show ¬ (nI 12 ≤ nI d) from d62)
            refine k_aload_n C 66 0 rfl rfl dX9_reply_65 rfl ?_
            refine k_get C 69 flX9_45 90 (by decide) (v := .ref (ga g 69)) (ce_90 g _) rfl dX9_reply_66 rfl ?_
            refine k_get C 72 flX9_256 69 (by decide) (v := .ref (ga g 71)) (ce_sc g _ (show scl 0 12 by unfold scl; omega)) rfl dX9_reply_69 rfl ?_
            refine k_iload C 74 4  rfl dX9_reply_72 rfl ?_
            refine k_aload_n C 75 0 rfl rfl dX9_reply_74 rfl ?_
            refine k_get C 78 flX9_12 90 (by decide) (v := .ref (ga g 43)) (ce_90 g _) rfl dX9_reply_75 rfl ?_
            refine k_iconst C 79 (v := 0) (by decide) dX9_reply_78 rfl ?_
            refine k_iload C 81 4  rfl dX9_reply_79 rfl ?_
            refine k_iconst C 82 (v := 0) (by decide) dX9_reply_81 rfl ?_
            refine k_aload_n C 83 0 rfl rfl dX9_reply_82 rfl ?_
            refine k_get C 86 flX9_12 90 (by decide) (v := .ref (ga g 43)) (ce_90 g _) rfl dX9_reply_83 rfl ?_
            refine k_get C 89 flX9_92 43 (by decide) (v := .ref (ga g 37)) (ce_wld g _ (show 0 < 2 by decide)) rfl dX9_reply_86 rfl ?_
            refine k_get C 92 flX9_168 37 (by decide) (v := .int ((M1) 37 3)) (ce_fld g _ (show 0 < 3 by decide)) rfl dX9_reply_89 rfl ?_
            refine k_teq (y := M 37 3) (hA 37 3 (by unfold lawS; omega) (by omega)) ?_
            refine k_callVI C 95 (As := [.int 0, .int (nI d), .int 0, .int (M 37 3)]) (st := [.int (nI d), .ref (ga g 71)]) 43 (by decide) (ce_wld g _ (show 0 < 2 by decide)) rfl rfl mwX9_209 vlX8_giveUse (qX8_giveUse l g M1 (w := 0) (by decide) (u := 0) (by decide) (n := n1) (lawOk_f hLw hA) (nI d) 0 (M 37 3)) mlX8_giveUse (by decide) (by decide) rfl rfl (Nat.le_of_ble_eq_true rfl) dX9_reply_92 rfl (fun r2 M2 h2 => ?_)
            obtain ⟨hr2, hs2⟩ := h2
            rw [show M1 (52 + (2 * 0 + 0)) = M 52 from funext fun k => hA 52 k (by unfold lawS; omega) (by omega)] at hr2
            refine k_iast C 96 71 d (by decide) (ce_sst g (show scl 0 12 by unfold scl; omega)) (by rcases (show scl 0 12 by unfold scl; omega) with ⟨_, h⟩ | ⟨_, h⟩ <;> omega) rfl (by omega) dX9_reply_95 rfl ?_
            refine k_iinc C 99 (nI (d + 1)) 4 [(4, .int (nI (d + 1))), (0, .ref (ga g 90)), (1, .int (nI (10 * (TL + 1) + TC))), (2, .int (nI w)), (3, .int (nI a))] rfl (iinc_p d) (by decide) rfl dX9_reply_96 rfl ?_
            refine k_goto C 58 dX9_reply_99 (by decide) ?_
            refine k_sub [(0, .ref (ga g 90)), (1, .int (nI (10 * (TL + 1) + TC))), (2, .int (nI w)), (3, .int (nI a)), (4, .int (nI (d + 1)))] [1, 2, 3, 4, 0] rfl ?_
            refine k_all (M' := (mu M2 71 d r2)) (lo' := [(0, .ref (ga g 90)), (1, .int (nI (10 * (TL + 1) + TC))), (2, .int (nI w)), (3, .int (nI a)), (4, .int (nI (d + 1)))]) (st' := []) (by rfl) (by rfl) rfl ?_
            exact ih (d + 1, mu M2 71 d r2) (show (1 ≤ (d + 1)) ∧ ((d + 1) ≤ 12) ∧ (∀ a k, ¬ lawS a k → ¬ (71 ≤ a ∧ a < 77) → (mu M2 71 d r2) a k = M a k) ∧ (∀ q, 1 ≤ q → q < (d + 1) → (mu M2 71 d r2) 71 q = nI (sL q)) from by exact ⟨by omega, by omega, fun a k q1 q2 => by rw [mu_n _ _ _ (by omega), hs2 a k q1]; exact hA a k q1 q2, fun q q1 q2 => by
              by_cases e : q = d
              · subst e; rw [mu_s, hr2]; exact gL q q1 (by omega)
              · rw [mu_o _ _ _ e, hs2 _ _ (by unfold lawS; omega)]; exact hsL q q1 (by omega)⟩) (by show 12 - (d + 1) < 12 - d; omega)
        · skip
          have d45 := mt (nI_leI (by omega) (by omega)).mpr (show ¬ (nI 0 ≤ nI a) from d45)
          exact absurd d45 (by omega)
      · skip
        have d13 := mt (nI_leI (by omega) (by omega)).mpr (show ¬ (nI w ≤ nI 1) from d13)
        exact absurd d13 (by omega)
set_option maxHeartbeats 4000000 in
set_option maxRecDepth 20000 in
theorem qX9_odds_f (l : Launch) (g : GT) (M : Mem) (km h w : Int32) (hf : (pKm km && (decide (0 ≤ h) && decide (h < 6)) && (decide (0 ≤ w) && decide (w ≤ 1))) = false) : CtrE l g yX9_odds cX9_odds 7 (some .int) 3 [.ref (ga g 90), .int km, .int h, .int w] M (-1000000001) (mu M 89 1 (M 89 1 + 1)) := by
  refine ctrI_of (by decide +kernel) (Nat.le_of_ble_eq_true rfl) ?_
  intro pP eE RR sS mI aG bB mE cD C
  refine k_lo (lo' := [(0, .ref (ga g 90)), (1, .int km), (2, .int h), (3, .int w)]) rfl ?_
  refine k_iload_n C 1 1 rfl rfl dX9_odds_0 rfl ?_
  refine k_callSE C 4 (As := [.int km]) (st := []) mwX9_77 skX9_isKindWithNumber (qX9_isKindWithNumber l g M km) mlX9_isKindWithNumber (by decide) (by decide) rfl rfl (Nat.le_of_ble_eq_true rfl) dX9_odds_1 rfl ?_
  refine k_if_eqB C 23 7 dX9_odds_4 (by decide) rfl (fun c4 => ?_) (fun d4 => ?_)
  · skip
    refine k_aload_n C 24 0 rfl rfl dX9_odds_23 rfl ?_
    refine k_ldc C 26 cwX9_87 dX9_odds_24 rfl ?_
    refine k_callVE C 29 (As := [.int (-1000000001)]) (st := []) 90 (by decide) (ce_90 g _) rfl rfl mwX9_88 vlX9_refuse (qX9_refuse l g M (-1000000001) (k := 1) (by decide) (by decide) (by decide)) mlX9_refuse (by decide) (by decide) rfl rfl (Nat.le_of_ble_eq_true rfl) dX9_odds_26 rfl ?_
    refine k_ret C rfl dX9_odds_29 ?_
    exact ⟨rfl, rfl⟩
  · skip
    refine k_iload_n C 8 2 rfl rfl dX9_odds_7 rfl ?_
    refine k_callSE C 11 (As := [.int h]) (st := []) mwX9_84 skX9_isHand (qX9_isHand l g M h) mlX9_isHand (by decide) (by decide) rfl rfl (Nat.le_of_ble_eq_true rfl) dX9_odds_8 rfl ?_
    refine k_if_eqB C 23 14 dX9_odds_11 (by decide) rfl (fun c11 => ?_) (fun d11 => ?_)
    · skip
      refine k_aload_n C 24 0 rfl rfl dX9_odds_23 rfl ?_
      refine k_ldc C 26 cwX9_87 dX9_odds_24 rfl ?_
      refine k_callVE C 29 (As := [.int (-1000000001)]) (st := []) 90 (by decide) (ce_90 g _) rfl rfl mwX9_88 vlX9_refuse (qX9_refuse l g M (-1000000001) (k := 1) (by decide) (by decide) (by decide)) mlX9_refuse (by decide) (by decide) rfl rfl (Nat.le_of_ble_eq_true rfl) dX9_odds_26 rfl ?_
      refine k_ret C rfl dX9_odds_29 ?_
      exact ⟨rfl, rfl⟩
    · skip
      refine k_iload_n C 15 3 rfl rfl dX9_odds_14 rfl ?_
      refine k_if_lt C 23 18 dX9_odds_15 (by decide) rfl (fun c15 => ?_) (fun d15 => ?_)
      · skip
        refine k_aload_n C 24 0 rfl rfl dX9_odds_23 rfl ?_
        refine k_ldc C 26 cwX9_87 dX9_odds_24 rfl ?_
        refine k_callVE C 29 (As := [.int (-1000000001)]) (st := []) 90 (by decide) (ce_90 g _) rfl rfl mwX9_88 vlX9_refuse (qX9_refuse l g M (-1000000001) (k := 1) (by decide) (by decide) (by decide)) mlX9_refuse (by decide) (by decide) rfl rfl (Nat.le_of_ble_eq_true rfl) dX9_odds_26 rfl ?_
        refine k_ret C rfl dX9_odds_29 ?_
        exact ⟨rfl, rfl⟩
      · skip
        refine k_iload_n C 19 3 rfl rfl dX9_odds_18 rfl ?_
        refine k_iconst C 20 (v := 1) (by decide) dX9_odds_19 rfl ?_
        refine k_icmp_le C 30 23 dX9_odds_20 (by decide) rfl (fun c20 => ?_) (fun d20 => ?_)
        · skip
          exact (bz hf (by rw [show pKm km = true from d4, d11, decide_eq_true (Int32.not_lt.mp d15), decide_eq_true c20]; rfl)).elim
        · skip
          refine k_aload_n C 24 0 rfl rfl dX9_odds_23 rfl ?_
          refine k_ldc C 26 cwX9_87 dX9_odds_24 rfl ?_
          refine k_callVE C 29 (As := [.int (-1000000001)]) (st := []) 90 (by decide) (ce_90 g _) rfl rfl mwX9_88 vlX9_refuse (qX9_refuse l g M (-1000000001) (k := 1) (by decide) (by decide) (by decide)) mlX9_refuse (by decide) (by decide) rfl rfl (Nat.le_of_ble_eq_true rfl) dX9_odds_26 rfl ?_
          refine k_ret C rfl dX9_odds_29 ?_
          exact ⟨rfl, rfl⟩
set_option maxHeartbeats 4000000 in
set_option maxRecDepth 20000 in
theorem qX9_odds_0 (l : Launch) (g : GT) (M : Mem) {n : Nat} (hn : M 37 1 = nI n) (h12 : n ≤ 12) (km : Int32) (h1 : pKm km = true) (h : Int32) (h2 : (decide (0 ≤ h) && decide (h < 6)) = true) {w : Nat} (hw : w < 2) (ho : pAhead (fF M 0) n = none) : CtrE l g yX9_odds cX9_odds 7 (some .int) 3 [.ref (ga g 90), .int km, .int h, .int (nI w)] M (-1000000003) (mu M 89 3 (M 89 3 + 1)) := by
  refine ctrI_of (by decide +kernel) (Nat.le_of_ble_eq_true rfl) ?_
  intro pP eE RR sS mI aG bB mE cD C
  refine k_lo (lo' := [(0, .ref (ga g 90)), (1, .int km), (2, .int h), (3, .int (nI w))]) rfl ?_
  refine k_iload_n C 1 1 rfl rfl dX9_odds_0 rfl ?_
  refine k_callSE C 4 (As := [.int km]) (st := []) mwX9_77 skX9_isKindWithNumber (qX9_isKindWithNumber l g M km) mlX9_isKindWithNumber (by decide) (by decide) rfl rfl (Nat.le_of_ble_eq_true rfl) dX9_odds_1 rfl ?_
  refine k_if_eqB C 23 7 dX9_odds_4 (by decide) rfl (fun c4 => ?_) (fun d4 => ?_)
  · skip
    exact (bz c4 h1).elim
  · skip
    refine k_iload_n C 8 2 rfl rfl dX9_odds_7 rfl ?_
    refine k_callSE C 11 (As := [.int h]) (st := []) mwX9_84 skX9_isHand (qX9_isHand l g M h) mlX9_isHand (by decide) (by decide) rfl rfl (Nat.le_of_ble_eq_true rfl) dX9_odds_8 rfl ?_
    refine k_if_eqB C 23 14 dX9_odds_11 (by decide) rfl (fun c11 => ?_) (fun d11 => ?_)
    · skip
      exact (bz c11 h2).elim
    · skip
      refine k_iload_n C 15 3 rfl rfl dX9_odds_14 rfl ?_
      refine k_if_lt C 23 18 dX9_odds_15 (by decide) rfl (fun c15 => ?_) (fun d15 => ?_)
      · skip
        have c15 := (nI_ltI (by omega) (by omega)).mp (show nI w < nI 0 from c15)
        exact absurd c15 (by omega)
      · skip
        have d15 := mt (nI_ltI (by omega) (by omega)).mpr (show ¬ (nI w < nI 0) from d15)
        refine k_iload_n C 19 3 rfl rfl dX9_odds_18 rfl ?_
        refine k_iconst C 20 (v := 1) (by decide) dX9_odds_19 rfl ?_
        refine k_icmp_le C 30 23 dX9_odds_20 (by decide) rfl (fun c20 => ?_) (fun d20 => ?_)
        · skip
          have c20 := (nI_leI (by omega) (by omega)).mp (show nI w ≤ nI 1 from c20)
          refine k_aload_n C 31 0 rfl rfl dX9_odds_30 rfl ?_
          refine k_get C 34 flX9_12 90 (by decide) (v := .ref (ga g 43)) (ce_90 g _) rfl dX9_odds_31 rfl ?_
          refine k_get C 37 flX9_92 43 (by decide) (v := .ref (ga g 37)) (ce_wld g _ (show 0 < 2 by decide)) rfl dX9_odds_34 rfl ?_
          refine k_aload_n C 38 0 rfl rfl dX9_odds_37 rfl ?_
          refine k_get C 41 flX9_12 90 (by decide) (v := .ref (ga g 43)) (ce_90 g _) rfl dX9_odds_38 rfl ?_
          refine k_get C 44 flX9_92 43 (by decide) (v := .ref (ga g 37)) (ce_wld g _ (show 0 < 2 by decide)) rfl dX9_odds_41 rfl ?_
          refine k_get C 47 flX9_95 37 (by decide) (v := .int ((M) 37 1)) (ce_fld g _ (show 0 < 3 by decide)) rfl dX9_odds_44 rfl ?_
          refine k_teq (y := nI n) hn ?_
          refine k_callVE C 50 (As := [.int (nI n)]) (st := []) 37 (by decide) (ce_fld g _ (show 0 < 3 by decide)) rfl rfl mwX9_253 vlX1_seenAhead (qX1_seenAhead l g M (fi := 0) (by decide) (q := n) (by omega)) mlX1_seenAhead (by decide) (by decide) rfl rfl (Nat.le_of_ble_eq_true rfl) dX9_odds_47 rfl ?_
          refine k_teq (y := (-1)) (by rw [ho]; rfl) ?_
          refine k_istore C 52 [(4, .int (-1)), (0, .ref (ga g 90)), (1, .int km), (2, .int h), (3, .int (nI w))]  (by decide) rfl dX9_odds_50 rfl ?_
          refine k_iload C 54 0  rfl dX9_odds_52 rfl ?_
          refine k_if_lt C 72 57 dX9_odds_54 (by decide) rfl (fun c54 => ?_) (fun d54 => ?_)
          · skip
            refine k_aload_n C 73 1 rfl rfl dX9_odds_72 rfl ?_
            refine k_ldc C 75 cwX9_216 dX9_odds_73 rfl ?_
            refine k_callVE C 78 (As := [.int (-1000000003)]) (st := []) 90 (by decide) (ce_90 g _) rfl rfl mwX9_88 vlX9_refuse (qX9_refuse l g M (-1000000003) (k := 3) (by decide) (by decide) (by decide)) mlX9_refuse (by decide) (by decide) rfl rfl (Nat.le_of_ble_eq_true rfl) dX9_odds_75 rfl ?_
            refine k_ret C rfl dX9_odds_78 ?_
            exact ⟨rfl, rfl⟩
          · skip
            exact absurd d54 (by decide)
        · skip
          have d20 := mt (nI_leI (by omega) (by omega)).mpr (show ¬ (nI w ≤ nI 1) from d20)
          exact absurd d20 (by omega)
set_option maxHeartbeats 4000000 in
set_option maxRecDepth 20000 in
theorem qX9_odds_full (l : Launch) (g : GT) (M : Mem) {n : Nat} (hn : M 37 1 = nI n) (h12 : n ≤ 12) (km : Int32) (h1 : pKm km = true) (h : Int32) (h2 : (decide (0 ≤ h) && decide (h < 6)) = true) {w : Nat} (hw : w < 2) (hf : n = 12) : CtrE l g yX9_odds cX9_odds 7 (some .int) 3 [.ref (ga g 90), .int km, .int h, .int (nI w)] M (-1000000003) (mu M 89 3 (M 89 3 + 1)) := by
  refine ctrI_of (by decide +kernel) (Nat.le_of_ble_eq_true rfl) ?_
  intro pP eE RR sS mI aG bB mE cD C
  refine k_lo (lo' := [(0, .ref (ga g 90)), (1, .int km), (2, .int h), (3, .int (nI w))]) rfl ?_
  refine k_iload_n C 1 1 rfl rfl dX9_odds_0 rfl ?_
  refine k_callSE C 4 (As := [.int km]) (st := []) mwX9_77 skX9_isKindWithNumber (qX9_isKindWithNumber l g M km) mlX9_isKindWithNumber (by decide) (by decide) rfl rfl (Nat.le_of_ble_eq_true rfl) dX9_odds_1 rfl ?_
  refine k_if_eqB C 23 7 dX9_odds_4 (by decide) rfl (fun c4 => ?_) (fun d4 => ?_)
  · skip
    exact (bz c4 h1).elim
  · skip
    refine k_iload_n C 8 2 rfl rfl dX9_odds_7 rfl ?_
    refine k_callSE C 11 (As := [.int h]) (st := []) mwX9_84 skX9_isHand (qX9_isHand l g M h) mlX9_isHand (by decide) (by decide) rfl rfl (Nat.le_of_ble_eq_true rfl) dX9_odds_8 rfl ?_
    refine k_if_eqB C 23 14 dX9_odds_11 (by decide) rfl (fun c11 => ?_) (fun d11 => ?_)
    · skip
      exact (bz c11 h2).elim
    · skip
      refine k_iload_n C 15 3 rfl rfl dX9_odds_14 rfl ?_
      refine k_if_lt C 23 18 dX9_odds_15 (by decide) rfl (fun c15 => ?_) (fun d15 => ?_)
      · skip
        have c15 := (nI_ltI (by omega) (by omega)).mp (show nI w < nI 0 from c15)
        exact absurd c15 (by omega)
      · skip
        have d15 := mt (nI_ltI (by omega) (by omega)).mpr (show ¬ (nI w < nI 0) from d15)
        refine k_iload_n C 19 3 rfl rfl dX9_odds_18 rfl ?_
        refine k_iconst C 20 (v := 1) (by decide) dX9_odds_19 rfl ?_
        refine k_icmp_le C 30 23 dX9_odds_20 (by decide) rfl (fun c20 => ?_) (fun d20 => ?_)
        · skip
          have c20 := (nI_leI (by omega) (by omega)).mp (show nI w ≤ nI 1 from c20)
          refine k_aload_n C 31 0 rfl rfl dX9_odds_30 rfl ?_
          refine k_get C 34 flX9_12 90 (by decide) (v := .ref (ga g 43)) (ce_90 g _) rfl dX9_odds_31 rfl ?_
          refine k_get C 37 flX9_92 43 (by decide) (v := .ref (ga g 37)) (ce_wld g _ (show 0 < 2 by decide)) rfl dX9_odds_34 rfl ?_
          refine k_aload_n C 38 0 rfl rfl dX9_odds_37 rfl ?_
          refine k_get C 41 flX9_12 90 (by decide) (v := .ref (ga g 43)) (ce_90 g _) rfl dX9_odds_38 rfl ?_
          refine k_get C 44 flX9_92 43 (by decide) (v := .ref (ga g 37)) (ce_wld g _ (show 0 < 2 by decide)) rfl dX9_odds_41 rfl ?_
          refine k_get C 47 flX9_95 37 (by decide) (v := .int ((M) 37 1)) (ce_fld g _ (show 0 < 3 by decide)) rfl dX9_odds_44 rfl ?_
          refine k_teq (y := nI n) hn ?_
          refine k_callVE C 50 (As := [.int (nI n)]) (st := []) 37 (by decide) (ce_fld g _ (show 0 < 3 by decide)) rfl rfl mwX9_253 vlX1_seenAhead (qX1_seenAhead l g M (fi := 0) (by decide) (q := n) (by omega)) mlX1_seenAhead (by decide) (by decide) rfl rfl (Nat.le_of_ble_eq_true rfl) dX9_odds_47 rfl ?_
          refine k_istore C 52 [(4, .int (oI (pAhead (fF M 0) n))), (0, .ref (ga g 90)), (1, .int km), (2, .int h), (3, .int (nI w))]  (by decide) rfl dX9_odds_50 rfl ?_
          refine k_iload C 54 0  rfl dX9_odds_52 rfl ?_
          rcases q54 : pAhead (fF M 0) n with _ | a
          · skip
            have q54n := q54
            refine k_teq (y := (-1)) rfl ?_
            refine k_lo (lo' := [(4, .int (-1)), (0, .ref (ga g 90)), (1, .int km), (2, .int h), (3, .int (nI w))]) rfl ?_
            refine k_if_lt C 72 57 dX9_odds_54 (by decide) rfl (fun c54 => ?_) (fun d54 => ?_)
            · skip
              refine k_aload_n C 73 1 rfl rfl dX9_odds_72 rfl ?_
              refine k_ldc C 75 cwX9_216 dX9_odds_73 rfl ?_
              refine k_callVE C 78 (As := [.int (-1000000003)]) (st := []) 90 (by decide) (ce_90 g _) rfl rfl mwX9_88 vlX9_refuse (qX9_refuse l g M (-1000000003) (k := 3) (by decide) (by decide) (by decide)) mlX9_refuse (by decide) (by decide) rfl rfl (Nat.le_of_ble_eq_true rfl) dX9_odds_75 rfl ?_
              refine k_ret C rfl dX9_odds_78 ?_
              exact ⟨rfl, rfl⟩
            · skip
              exact absurd d54 (by decide)
          · skip
            have q54s := q54
            refine k_teq (y := nI a) rfl ?_
            refine k_lo (lo' := [(4, .int (nI a)), (0, .ref (ga g 90)), (1, .int km), (2, .int h), (3, .int (nI w))]) rfl ?_
            have ha := (pAhead_in _ _ _ q54s).1
            refine k_if_lt C 72 57 dX9_odds_54 (by decide) rfl (fun c54 => ?_) (fun d54 => ?_)
            · skip
              have c54 := (nI_ltI (by omega) (by omega)).mp (show nI a < nI 0 from c54)
              exact absurd c54 (by omega)
            · skip
              have d54 := mt (nI_ltI (by omega) (by omega)).mpr (show ¬ (nI a < nI 0) from d54)
              refine k_aload_n C 58 1 rfl rfl dX9_odds_57 rfl ?_
              refine k_get C 61 flX9_12 90 (by decide) (v := .ref (ga g 43)) (ce_90 g _) rfl dX9_odds_58 rfl ?_
              refine k_get C 64 flX9_92 43 (by decide) (v := .ref (ga g 37)) (ce_wld g _ (show 0 < 2 by decide)) rfl dX9_odds_61 rfl ?_
              refine k_get C 67 flX9_95 37 (by decide) (v := .int ((M) 37 1)) (ce_fld g _ (show 0 < 3 by decide)) rfl dX9_odds_64 rfl ?_
              refine k_teq (y := nI n) hn ?_
              refine k_bipush C 69 (v := 12) (by decide) dX9_odds_67 rfl ?_
              refine k_icmp_lt C 79 72 dX9_odds_69 (by decide) rfl (fun c69 => ?_) (fun d69 => ?_)
              · skip
                have c69 := (nI_ltI (by omega) (by omega)).mp (show nI n < nI 12 from c69)
                exact absurd c69 (by omega)
              · skip
                have d69 := mt (nI_ltI (by omega) (by omega)).mpr (show ¬ (nI n < nI 12) from d69)
                refine k_aload_n C 73 1 rfl rfl dX9_odds_72 rfl ?_
                refine k_ldc C 75 cwX9_216 dX9_odds_73 rfl ?_
                refine k_callVE C 78 (As := [.int (-1000000003)]) (st := []) 90 (by decide) (ce_90 g _) rfl rfl mwX9_88 vlX9_refuse (qX9_refuse l g M (-1000000003) (k := 3) (by decide) (by decide) (by decide)) mlX9_refuse (by decide) (by decide) rfl rfl (Nat.le_of_ble_eq_true rfl) dX9_odds_75 rfl ?_
                refine k_ret C rfl dX9_odds_78 ?_
                exact ⟨rfl, rfl⟩
        · skip
          have d20 := mt (nI_leI (by omega) (by omega)).mpr (show ¬ (nI w ≤ nI 1) from d20)
          exact absurd d20 (by omega)
set_option maxHeartbeats 4000000 in
set_option maxRecDepth 20000 in
theorem qX9_linesThatEcho (l : Launch) (g : GT) (M : Mem) {k : Nat} (hk : k < 36) (km h : Int32) (h0 : M 36 0 = km / 10) (h1 : M 36 1 = km - km / 10 * 10) (h4 : M 36 4 = h) : CtrI l g yX9_linesThatEcho cX9_linesThatEcho 4 (some .int) 2 [.ref (ga g 90), .ref (ga g k)] M (fun r M1 => r = nI (pEch km h (M k) 72) ∧ ∀ q, q ≠ 36 → M1 q = M q) := by
  refine ctrI_of (by decide +kernel) (Nat.le_of_ble_eq_true rfl) ?_
  intro pP eE RR sS mI aG bB mE cD C
  refine k_lo (lo' := [(0, .ref (ga g 90)), (1, .ref (ga g k))]) rfl ?_
  refine k_iconst C 1 (v := 0) (by decide) dX9_linesThatEcho_0 rfl ?_
  refine k_istore_n C 2 [(2, .int 0), (0, .ref (ga g 90)), (1, .ref (ga g k))] rfl (by decide) rfl dX9_linesThatEcho_1 rfl ?_
  refine k_iconst C 3 (v := 0) (by decide) dX9_linesThatEcho_2 rfl ?_
  refine k_istore_n C 4 [(3, .int 0), (2, .int 0), (0, .ref (ga g 90)), (1, .ref (ga g k))] rfl (by decide) rfl dX9_linesThatEcho_3 rfl ?_
  refine k_sub [(0, .ref (ga g 90)), (1, .ref (ga g k)), (2, .int 0), (3, .int 0)] [2, 3, 1, 0] rfl ?_
  refine k_all (M' := M) (lo' := [(0, .ref (ga g 90)), (1, .ref (ga g k)), (2, .int (nI (pEch km h (M k) 0))), (3, .int (nI 0))]) (st' := []) (by rfl) (by rfl) rfl ?_
  refine k_loop (σ := Nat × Mem) (fun (v : Nat × Mem) => match v with | (i, M1) => (i ≤ 72) ∧ (∀ q, q ≠ 36 → M1 q = M q) ∧ (M1 36 0 = km / 10 ∧ M1 36 1 = km - km / 10 * 10 ∧ M1 36 4 = h)) (fun (v : Nat × Mem) => match v with | (i, M1) => 72 - i) (fun (v : Nat × Mem) => match v with | (i, M1) => M1) (fun (v : Nat × Mem) => match v with | (i, M1) => [(0, .ref (ga g 90)), (1, .ref (ga g k)), (2, .int (nI (pEch km h (M k) i))), (3, .int (nI i))]) (0, M) (show (0 ≤ 72) ∧ (∀ q, q ≠ 36 → M q = M q) ∧ (M 36 0 = km / 10 ∧ M 36 1 = km - km / 10 * 10 ∧ M 36 4 = h) from by exact ⟨Nat.zero_le _, fun _ _ => rfl, h0, h1, h4⟩) ?_
  rintro ⟨i, M1⟩ hI ih
  have hI : (i ≤ 72) ∧ (∀ q, q ≠ 36 → M1 q = M q) ∧ (M1 36 0 = km / 10 ∧ M1 36 1 = km - km / 10 * 10 ∧ M1 36 4 = h) := hI
  obtain ⟨hi, hA, hB⟩ := hI
  show KW pP l eE RR sS mI aG bB mE cD g 4 _ (M1) 4 [(0, .ref (ga g 90)), (1, .ref (ga g k)), (2, .int (nI (pEch km h (M k) i))), (3, .int (nI i))] []
  refine k_iload_n C 5 3 rfl rfl dX9_linesThatEcho_4 rfl ?_
  refine k_bipush C 7 (v := 72) (by decide) dX9_linesThatEcho_5 rfl ?_
  refine k_icmp_ge C 41 10 dX9_linesThatEcho_7 (by decide) rfl (fun c7 => ?_) (fun d7 => ?_)
  · skip
    have c7 := (nI_leI (by omega) (by omega)).mp (show nI 72 ≤ nI i from c7)
    refine k_iload_n C 42 2 rfl rfl dX9_linesThatEcho_41 rfl ?_
    refine k_ret C rfl dX9_linesThatEcho_42 ?_
    have e : i = 72 := by omega
    subst e
    exact ⟨rfl, hA⟩
  · skip
    have d7 := mt (nI_leI (by omega) (by omega)).mpr (show ¬ (nI 72 ≤ nI i) from d7)
    refine k_aload_n C 11 0 rfl rfl dX9_linesThatEcho_10 rfl ?_
    refine k_get C 14 flX9_29 90 (by decide) (v := .ref (ga g 36)) (ce_90 g _) rfl dX9_linesThatEcho_11 rfl ?_
    refine k_iload_n C 15 3 rfl rfl dX9_linesThatEcho_14 rfl ?_
    refine k_callSE C 18 (As := [.int (nI i)]) (st := [.ref (ga g 36)]) mwX9_347 skX9_lineAt (by have z := qX9_lineAt l g M1 (nI i); rw [line_nI (by omega)] at z; exact z) mlX9_lineAt (by decide) (by decide) rfl rfl (Nat.le_of_ble_eq_true rfl) dX9_linesThatEcho_15 rfl ?_
    refine k_callVU C 21 (As := [.int (nI (10 * (1 + i / 6) + i % 6))]) (st := []) 36 (by decide) (ce_fu g _ (by decide)) rfl rfl mwX9_165 vlX2_setLine (qX2_setLine l g M1 (k := 36) (by decide) (nI (10 * (1 + i / 6) + i % 6))) mlX2_setLine (by decide) (by decide) rfl rfl (Nat.le_of_ble_eq_true rfl) dX9_linesThatEcho_18 rfl ?_
    refine k_aload_n C 22 0 rfl rfl dX9_linesThatEcho_21 rfl ?_
    refine k_get C 25 flX9_29 90 (by decide) (v := .ref (ga g 36)) (ce_90 g _) rfl dX9_linesThatEcho_22 rfl ?_
    refine k_aload_n C 26 1 rfl rfl dX9_linesThatEcho_25 rfl ?_
    refine k_callVE C 29 (As := [.ref (ga g k)]) (st := []) 36 (by decide) (ce_fu g _ (by decide)) rfl rfl mwX9_350 vlX2_echoes (qX2_echoes l g (mu (mu M1 36 2 ((nI (10 * (1 + i / 6) + i % 6)) / 10)) 36 3 ((nI (10 * (1 + i / 6) + i % 6)) - (nI (10 * (1 + i / 6) + i % 6)) / 10 * 10)) (k := 36) (by decide) (k2 := k) (by omega)) mlX2_echoes (by decide) (by decide) rfl rfl (Nat.le_of_ble_eq_true rfl) dX9_linesThatEcho_26 rfl ?_
    refine k_teq (y := b2i (pAns (cnd (km / 10) (km - km / 10 * 10) (nI (1 + i / 6)) (nI (i % 6)) h) (M k))) (congrArg b2i (cnd_ans hA hB (by omega) (by omega))) ?_
    refine k_if_eqB C 35 32 dX9_linesThatEcho_29 (by decide) rfl (fun c29 => ?_) (fun d29 => ?_)
    · skip
      refine k_iinc C 38 (nI (i + 1)) 3 [(3, .int (nI (i + 1))), (0, .ref (ga g 90)), (1, .ref (ga g k)), (2, .int (nI (pEch km h (M k) i)))] rfl (iinc_p i) (by decide) rfl dX9_linesThatEcho_35 rfl ?_
      refine k_goto C 4 dX9_linesThatEcho_38 (by decide) ?_
      refine k_sub [(0, .ref (ga g 90)), (1, .ref (ga g k)), (2, .int (nI (pEch km h (M k) i))), (3, .int (nI (i + 1)))] [1, 2, 3, 0] rfl ?_
      refine k_all (M' := (mu (mu M1 36 2 ((nI (10 * (1 + i / 6) + i % 6)) / 10)) 36 3 ((nI (10 * (1 + i / 6) + i % 6)) - (nI (10 * (1 + i / 6) + i % 6)) / 10 * 10))) (lo' := [(0, .ref (ga g 90)), (1, .ref (ga g k)), (2, .int (nI (pEch km h (M k) (i + 1)))), (3, .int (nI (i + 1)))]) (st' := []) (by rfl) (by simp only [pEch]; rw [c29]; rfl) rfl ?_
      exact ih (i + 1, mu (mu M1 36 2 ((nI (10 * (1 + i / 6) + i % 6)) / 10)) 36 3 ((nI (10 * (1 + i / 6) + i % 6)) - (nI (10 * (1 + i / 6) + i % 6)) / 10 * 10)) (show ((i + 1) ≤ 72) ∧ (∀ q, q ≠ 36 → (mu (mu M1 36 2 ((nI (10 * (1 + i / 6) + i % 6)) / 10)) 36 3 ((nI (10 * (1 + i / 6) + i % 6)) - (nI (10 * (1 + i / 6) + i % 6)) / 10 * 10)) q = M q) ∧ ((mu (mu M1 36 2 ((nI (10 * (1 + i / 6) + i % 6)) / 10)) 36 3 ((nI (10 * (1 + i / 6) + i % 6)) - (nI (10 * (1 + i / 6) + i % 6)) / 10 * 10)) 36 0 = km / 10 ∧ (mu (mu M1 36 2 ((nI (10 * (1 + i / 6) + i % 6)) / 10)) 36 3 ((nI (10 * (1 + i / 6) + i % 6)) - (nI (10 * (1 + i / 6) + i % 6)) / 10 * 10)) 36 1 = km - km / 10 * 10 ∧ (mu (mu M1 36 2 ((nI (10 * (1 + i / 6) + i % 6)) / 10)) 36 3 ((nI (10 * (1 + i / 6) + i % 6)) - (nI (10 * (1 + i / 6) + i % 6)) / 10 * 10)) 36 4 = h) from by exact ⟨by omega, fun q hq => by rw [mu_n _ _ _ hq, mu_n _ _ _ hq]; exact hA q hq, by simp only [mu_o _ _ _ (show (0 : Nat) ≠ 3 by decide), mu_o _ _ _ (show (0 : Nat) ≠ 2 by decide)]; exact hB.1, by simp only [mu_o _ _ _ (show (1 : Nat) ≠ 3 by decide), mu_o _ _ _ (show (1 : Nat) ≠ 2 by decide)]; exact hB.2.1, by simp only [mu_o _ _ _ (show (4 : Nat) ≠ 3 by decide), mu_o _ _ _ (show (4 : Nat) ≠ 2 by decide)]; exact hB.2.2⟩) (by show 72 - (i + 1) < 72 - i; omega)
    · skip
      refine k_iinc C 35 (nI ((pEch km h (M k) i) + 1)) 2 [(2, .int (nI ((pEch km h (M k) i) + 1))), (0, .ref (ga g 90)), (1, .ref (ga g k)), (3, .int (nI i))] rfl (iinc_p (pEch km h (M k) i)) (by decide) rfl dX9_linesThatEcho_32 rfl ?_
      refine k_iinc C 38 (nI (i + 1)) 3 [(3, .int (nI (i + 1))), (2, .int (nI ((pEch km h (M k) i) + 1))), (0, .ref (ga g 90)), (1, .ref (ga g k))] rfl (iinc_p i) (by decide) rfl dX9_linesThatEcho_35 rfl ?_
      refine k_goto C 4 dX9_linesThatEcho_38 (by decide) ?_
      refine k_sub [(0, .ref (ga g 90)), (1, .ref (ga g k)), (2, .int (nI ((pEch km h (M k) i) + 1))), (3, .int (nI (i + 1)))] [2, 3, 1, 0] rfl ?_
      refine k_all (M' := (mu (mu M1 36 2 ((nI (10 * (1 + i / 6) + i % 6)) / 10)) 36 3 ((nI (10 * (1 + i / 6) + i % 6)) - (nI (10 * (1 + i / 6) + i % 6)) / 10 * 10))) (lo' := [(0, .ref (ga g 90)), (1, .ref (ga g k)), (2, .int (nI (pEch km h (M k) (i + 1)))), (3, .int (nI (i + 1)))]) (st' := []) (by rfl) (by simp only [pEch]; rw [d29]; rfl) rfl ?_
      exact ih (i + 1, mu (mu M1 36 2 ((nI (10 * (1 + i / 6) + i % 6)) / 10)) 36 3 ((nI (10 * (1 + i / 6) + i % 6)) - (nI (10 * (1 + i / 6) + i % 6)) / 10 * 10)) (show ((i + 1) ≤ 72) ∧ (∀ q, q ≠ 36 → (mu (mu M1 36 2 ((nI (10 * (1 + i / 6) + i % 6)) / 10)) 36 3 ((nI (10 * (1 + i / 6) + i % 6)) - (nI (10 * (1 + i / 6) + i % 6)) / 10 * 10)) q = M q) ∧ ((mu (mu M1 36 2 ((nI (10 * (1 + i / 6) + i % 6)) / 10)) 36 3 ((nI (10 * (1 + i / 6) + i % 6)) - (nI (10 * (1 + i / 6) + i % 6)) / 10 * 10)) 36 0 = km / 10 ∧ (mu (mu M1 36 2 ((nI (10 * (1 + i / 6) + i % 6)) / 10)) 36 3 ((nI (10 * (1 + i / 6) + i % 6)) - (nI (10 * (1 + i / 6) + i % 6)) / 10 * 10)) 36 1 = km - km / 10 * 10 ∧ (mu (mu M1 36 2 ((nI (10 * (1 + i / 6) + i % 6)) / 10)) 36 3 ((nI (10 * (1 + i / 6) + i % 6)) - (nI (10 * (1 + i / 6) + i % 6)) / 10 * 10)) 36 4 = h) from by exact ⟨by omega, fun q hq => by rw [mu_n _ _ _ hq, mu_n _ _ _ hq]; exact hA q hq, by simp only [mu_o _ _ _ (show (0 : Nat) ≠ 3 by decide), mu_o _ _ _ (show (0 : Nat) ≠ 2 by decide)]; exact hB.1, by simp only [mu_o _ _ _ (show (1 : Nat) ≠ 3 by decide), mu_o _ _ _ (show (1 : Nat) ≠ 2 by decide)]; exact hB.2.1, by simp only [mu_o _ _ _ (show (4 : Nat) ≠ 3 by decide), mu_o _ _ _ (show (4 : Nat) ≠ 2 by decide)]; exact hB.2.2⟩) (by show 72 - (i + 1) < 72 - i; omega)
set_option maxHeartbeats 4000000 in
set_option maxRecDepth 20000 in
theorem qX9_commonDivisor (l : Launch) (g : GT) (M : Mem) {g0 : Nat} (hg : g0 ≤ 72) : CtrE l g yX9_commonDivisor cX9_commonDivisor 2 (some .int) 0 [.int (nI g0)] M (nI (cdR g0 72)) M := by
  refine ctrI_of (by decide +kernel) (Nat.le_of_ble_eq_true rfl) ?_
  intro pP eE RR sS mI aG bB mE cD C
  refine k_lo (lo' := [(0, .int (nI g0))]) rfl ?_
  refine k_bipush C 2 (v := 72) (by decide) dX9_commonDivisor_0 rfl ?_
  refine k_istore_n C 3 [(1, .int 72), (0, .int (nI g0))] rfl (by decide) rfl dX9_commonDivisor_2 rfl ?_
  refine k_sub [(0, .int (nI g0)), (1, .int 72)] [1, 0] rfl ?_
  refine k_all (M' := M) (lo' := [(0, .int (nI g0)), (1, .int (nI (71 + 1)))]) (st' := []) (by rfl) (by rfl) rfl ?_
  refine k_loop (σ := Nat) (fun (d : Nat) => (d ≤ 71) ∧ (cdR g0 72 = cdR g0 (d + 1))) (fun (d : Nat) => d) (fun (d : Nat) => M) (fun (d : Nat) => [(0, .int (nI g0)), (1, .int (nI (d + 1)))]) 71 (show (71 ≤ 71) ∧ (cdR g0 72 = cdR g0 (71 + 1)) from by exact ⟨Nat.le_refl _, rfl⟩) ?_
  rintro d hI ih
  have hI : (d ≤ 71) ∧ (cdR g0 72 = cdR g0 (d + 1)) := hI
  obtain ⟨hd, he⟩ := hI
  show KW pP l eE RR sS mI aG bB mE cD g 2 _ (M) 3 [(0, .int (nI g0)), (1, .int (nI (d + 1)))] []
  refine k_iload_n C 4 1 rfl rfl dX9_commonDivisor_3 rfl ?_
  refine k_iconst C 5 (v := 1) (by decide) dX9_commonDivisor_4 rfl ?_
  refine k_icmp_le C 27 8 dX9_commonDivisor_5 (by decide) rfl (fun c5 => ?_) (fun d5 => ?_)
  · skip
    have c5 := (nI_leI (by omega) (by omega)).mp (show nI (d + 1) ≤ nI 1 from c5)
    refine k_iload_n C 28 1 rfl rfl dX9_commonDivisor_27 rfl ?_
    refine k_ret C rfl dX9_commonDivisor_28 ?_
    exact ⟨by rw [he, cdR_1 g0 c5], rfl⟩
  · skip
    have d5 := mt (nI_leI (by omega) (by omega)).mpr (show ¬ (nI (d + 1) ≤ nI 1) from d5)
    refine k_iload_n C 9 0 rfl rfl dX9_commonDivisor_8 rfl ?_
    refine k_iload_n C 10 1 rfl rfl dX9_commonDivisor_9 rfl ?_
    refine k_irem C 11 (nI_ne0 (by omega) (by omega)) dX9_commonDivisor_10 rfl ?_
    refine k_teq (y := nI (g0 % (d + 1))) (pk_rem (a := g0) (d := d + 1) (by omega) (by omega) (by omega)) ?_
    have hm1 := Nat.mod_le g0 (d + 1)
    refine k_if_ne C 21 14 dX9_commonDivisor_11 (by decide) rfl (fun c11 => ?_) (fun d11 => ?_)
    · skip
      have c11 := mt (nI_eq (by omega) (by omega)).mpr (show ¬ (nI (g0 % (d + 1)) = nI 0) from c11)
      refine k_iinc C 24 (nI d) 1 [(1, .int (nI d)), (0, .int (nI g0))] rfl (iinc_m1 d) (by decide) rfl dX9_commonDivisor_21 rfl ?_
      refine k_goto C 3 dX9_commonDivisor_24 (by decide) ?_
      refine k_sub [(0, .int (nI g0)), (1, .int (nI d))] [1, 0] rfl ?_
      refine k_all (M' := M) (lo' := [(0, .int (nI g0)), (1, .int (nI ((d - 1) + 1)))]) (st' := []) (by rfl) (by rw [show d - 1 + 1 = d by omega]) rfl ?_
      exact ih (d - 1) (show ((d - 1) ≤ 71) ∧ (cdR g0 72 = cdR g0 ((d - 1) + 1)) from by exact ⟨by omega, by rw [he, cdR_n (by omega) (fun q => c11 q.1), show d - 1 + 1 = d by omega]⟩) (by show (d - 1) < _; omega)
    · skip
      have d11 := (nI_eq (by omega) (by omega)).mp (show nI (g0 % (d + 1)) = nI 0 from d11)
      refine k_bipush C 16 (v := 72) (by decide) dX9_commonDivisor_14 rfl ?_
      refine k_iload_n C 17 1 rfl rfl dX9_commonDivisor_16 rfl ?_
      refine k_irem C 18 (nI_ne0 (by omega) (by omega)) dX9_commonDivisor_17 rfl ?_
      refine k_teq (y := nI (72 % (d + 1))) (pk_rem (a := 72) (d := d + 1) (by omega) (by omega) (by omega)) ?_
      have hm2 := Nat.mod_le 72 (d + 1)
      refine k_if_eq C 27 21 dX9_commonDivisor_18 (by decide) rfl (fun c18 => ?_) (fun d18 => ?_)
      · skip
        have c18 := (nI_eq (by omega) (by omega)).mp (show nI (72 % (d + 1)) = nI 0 from c18)
        refine k_iload_n C 28 1 rfl rfl dX9_commonDivisor_27 rfl ?_
        refine k_ret C rfl dX9_commonDivisor_28 ?_
        exact ⟨by rw [he, cdR_y d11 c18], rfl⟩
      · skip
        have d18 := mt (nI_eq (by omega) (by omega)).mpr (show ¬ (nI (72 % (d + 1)) = nI 0) from d18)
        refine k_iinc C 24 (nI d) 1 [(1, .int (nI d)), (0, .int (nI g0))] rfl (iinc_m1 d) (by decide) rfl dX9_commonDivisor_21 rfl ?_
        refine k_goto C 3 dX9_commonDivisor_24 (by decide) ?_
        refine k_sub [(0, .int (nI g0)), (1, .int (nI d))] [1, 0] rfl ?_
        refine k_all (M' := M) (lo' := [(0, .int (nI g0)), (1, .int (nI ((d - 1) + 1)))]) (st' := []) (by rfl) (by rw [show d - 1 + 1 = d by omega]) rfl ?_
        exact ih (d - 1) (show ((d - 1) ≤ 71) ∧ (cdR g0 72 = cdR g0 ((d - 1) + 1)) from by exact ⟨by omega, by rw [he, cdR_n (by omega) (fun q => d18 q.2), show d - 1 + 1 = d by omega]⟩) (by show (d - 1) < _; omega)
set_option maxHeartbeats 4000000 in
set_option maxRecDepth 20000 in
theorem qX9_odds_t (l : Launch) (g : GT) (M : Mem) {n : Nat} (hn : M 37 1 = nI n) (h12 : n < 12) (km : Int32) (h1 : pKm km = true) (h : Int32) (h2 : (decide (0 ≤ h) && decide (h < 6)) = true) {w : Nat} (hw : w < 2) {a : Nat} (ha : pAhead (fF M 0) n = some a) : CtrI l g yX9_odds cX9_odds 7 (some .int) 3 [.ref (ga g 90), .int km, .int h, .int (nI w)] M (fun r M1 => r = nI (if w = 0 then (pEch km h (M a) 72) / (cdR (pEch km h (M a) 72) 72) else 72 / (cdR (pEch km h (M a) 72) 72)) ∧ ∀ q, q ≠ 36 → M1 q = M q) := by
  refine ctrI_of (by decide +kernel) (Nat.le_of_ble_eq_true rfl) ?_
  intro pP eE RR sS mI aG bB mE cD C
  refine k_lo (lo' := [(0, .ref (ga g 90)), (1, .int km), (2, .int h), (3, .int (nI w))]) rfl ?_
  have han := (pAhead_in _ _ _ ha).1
  have hcd : 1 ≤ cdR (pEch km h (M a) 72) 72 ∧ cdR (pEch km h (M a) 72) 72 ≤ 72 := cdR_in (pEch km h (M a) 72) 71
  have hge := pEch_le km h (M a) 72
  refine k_iload_n C 1 1 rfl rfl dX9_odds_0 rfl ?_
  refine k_callSE C 4 (As := [.int km]) (st := []) mwX9_77 skX9_isKindWithNumber (qX9_isKindWithNumber l g M km) mlX9_isKindWithNumber (by decide) (by decide) rfl rfl (Nat.le_of_ble_eq_true rfl) dX9_odds_1 rfl ?_
  refine k_if_eqB C 23 7 dX9_odds_4 (by decide) rfl (fun c4 => ?_) (fun d4 => ?_)
  · skip
    exact (bz c4 h1).elim
  · skip
    refine k_iload_n C 8 2 rfl rfl dX9_odds_7 rfl ?_
    refine k_callSE C 11 (As := [.int h]) (st := []) mwX9_84 skX9_isHand (qX9_isHand l g M h) mlX9_isHand (by decide) (by decide) rfl rfl (Nat.le_of_ble_eq_true rfl) dX9_odds_8 rfl ?_
    refine k_if_eqB C 23 14 dX9_odds_11 (by decide) rfl (fun c11 => ?_) (fun d11 => ?_)
    · skip
      exact (bz c11 h2).elim
    · skip
      refine k_iload_n C 15 3 rfl rfl dX9_odds_14 rfl ?_
      refine k_if_lt C 23 18 dX9_odds_15 (by decide) rfl (fun c15 => ?_) (fun d15 => ?_)
      · skip
        have c15 := (nI_ltI (by omega) (by omega)).mp (show nI w < nI 0 from c15)
        exact absurd c15 (by omega)
      · skip
        have d15 := mt (nI_ltI (by omega) (by omega)).mpr (show ¬ (nI w < nI 0) from d15)
        refine k_iload_n C 19 3 rfl rfl dX9_odds_18 rfl ?_
        refine k_iconst C 20 (v := 1) (by decide) dX9_odds_19 rfl ?_
        refine k_icmp_le C 30 23 dX9_odds_20 (by decide) rfl (fun c20 => ?_) (fun d20 => ?_)
        · skip
          have c20 := (nI_leI (by omega) (by omega)).mp (show nI w ≤ nI 1 from c20)
          refine k_aload_n C 31 0 rfl rfl dX9_odds_30 rfl ?_
          refine k_get C 34 flX9_12 90 (by decide) (v := .ref (ga g 43)) (ce_90 g _) rfl dX9_odds_31 rfl ?_
          refine k_get C 37 flX9_92 43 (by decide) (v := .ref (ga g 37)) (ce_wld g _ (show 0 < 2 by decide)) rfl dX9_odds_34 rfl ?_
          refine k_aload_n C 38 0 rfl rfl dX9_odds_37 rfl ?_
          refine k_get C 41 flX9_12 90 (by decide) (v := .ref (ga g 43)) (ce_90 g _) rfl dX9_odds_38 rfl ?_
          refine k_get C 44 flX9_92 43 (by decide) (v := .ref (ga g 37)) (ce_wld g _ (show 0 < 2 by decide)) rfl dX9_odds_41 rfl ?_
          refine k_get C 47 flX9_95 37 (by decide) (v := .int ((M) 37 1)) (ce_fld g _ (show 0 < 3 by decide)) rfl dX9_odds_44 rfl ?_
          refine k_teq (y := nI n) hn ?_
          refine k_callVE C 50 (As := [.int (nI n)]) (st := []) 37 (by decide) (ce_fld g _ (show 0 < 3 by decide)) rfl rfl mwX9_253 vlX1_seenAhead (qX1_seenAhead l g M (fi := 0) (by decide) (q := n) (by omega)) mlX1_seenAhead (by decide) (by decide) rfl rfl (Nat.le_of_ble_eq_true rfl) dX9_odds_47 rfl ?_
          refine k_teq (y := nI a) (by rw [ha]; rfl) ?_
          refine k_istore C 52 [(4, .int (nI a)), (0, .ref (ga g 90)), (1, .int km), (2, .int h), (3, .int (nI w))]  (by decide) rfl dX9_odds_50 rfl ?_
          refine k_iload C 54 0  rfl dX9_odds_52 rfl ?_
          refine k_if_lt C 72 57 dX9_odds_54 (by decide) rfl (fun c54 => ?_) (fun d54 => ?_)
          · skip
            have c54 := (nI_ltI (by omega) (by omega)).mp (show nI a < nI 0 from c54)
            exact absurd c54 (by omega)
          · skip
            have d54 := mt (nI_ltI (by omega) (by omega)).mpr (show ¬ (nI a < nI 0) from d54)
            refine k_aload_n C 58 1 rfl rfl dX9_odds_57 rfl ?_
            refine k_get C 61 flX9_12 90 (by decide) (v := .ref (ga g 43)) (ce_90 g _) rfl dX9_odds_58 rfl ?_
            refine k_get C 64 flX9_92 43 (by decide) (v := .ref (ga g 37)) (ce_wld g _ (show 0 < 2 by decide)) rfl dX9_odds_61 rfl ?_
            refine k_get C 67 flX9_95 37 (by decide) (v := .int ((M) 37 1)) (ce_fld g _ (show 0 < 3 by decide)) rfl dX9_odds_64 rfl ?_
            refine k_teq (y := nI n) hn ?_
            refine k_bipush C 69 (v := 12) (by decide) dX9_odds_67 rfl ?_
            refine k_icmp_lt C 79 72 dX9_odds_69 (by decide) rfl (fun c69 => ?_) (fun d69 => ?_)
            · skip
              have c69 := (nI_ltI (by omega) (by omega)).mp (show nI n < nI 12 from c69)
              refine k_aload_n C 80 1 rfl rfl dX9_odds_79 rfl ?_
              refine k_get C 83 flX9_29 90 (by decide) (v := .ref (ga g 36)) (ce_90 g _) rfl dX9_odds_80 rfl ?_
              refine k_iload_n C 84 2 rfl rfl dX9_odds_83 rfl ?_
              refine k_callVU C 87 (As := [.int km]) (st := []) 36 (by decide) (ce_fu g _ (by decide)) rfl rfl mwX9_148 vlX2_setKindAndNumber (qX2_setKindAndNumber l g M (k := 36) (by decide) km) mlX2_setKindAndNumber (by decide) (by decide) rfl rfl (Nat.le_of_ble_eq_true rfl) dX9_odds_84 rfl ?_
              refine k_aload_n C 88 1 rfl rfl dX9_odds_87 rfl ?_
              refine k_get C 91 flX9_29 90 (by decide) (v := .ref (ga g 36)) (ce_90 g _) rfl dX9_odds_88 rfl ?_
              refine k_iload_n C 92 3 rfl rfl dX9_odds_91 rfl ?_
              refine k_put C 95 flX9_123 plX2 36 (by decide) (ce_fu g _ (by decide)) (ce_fu g _ (by decide)) (Nat.le_of_ble_eq_true rfl) rfl rfl rfl dX9_odds_92 rfl ?_
              refine k_aload_n C 96 1 rfl rfl dX9_odds_95 rfl ?_
              refine k_aload_n C 97 1 rfl rfl dX9_odds_96 rfl ?_
              refine k_get C 100 flX9_12 90 (by decide) (v := .ref (ga g 43)) (ce_90 g _) rfl dX9_odds_97 rfl ?_
              refine k_get C 103 flX9_92 43 (by decide) (v := .ref (ga g 37)) (ce_wld g _ (show 0 < 2 by decide)) rfl dX9_odds_100 rfl ?_
              refine k_get C 106 flX9_107 37 (by decide) (v := .ref (ga g 40)) (ce_fld g _ (show 0 < 3 by decide)) rfl dX9_odds_103 rfl ?_
              refine k_iload C 108 0  rfl dX9_odds_106 rfl ?_
              refine k_aald C 109 40 a 3 (by decide) (ce_fa g _ (show 0 < 3 by decide)) rfl (by decide) rfl (by omega) dX9_odds_108 rfl ?_
              refine k_st (st' := [.ref (ga g a), .ref (ga g 90)]) (by simp only [Nat.mul_zero, Nat.zero_add]) ?_
              refine k_callVI C 112 (As := [.ref (ga g a)]) (st := []) 90 (by decide) (ce_90 g _) rfl rfl mwX9_268 vlX9_linesThatEcho (qX9_linesThatEcho l g (mu (mu (mu M 36 0 (km / 10)) 36 1 (km - km / 10 * 10)) 36 4 h) (k := a) (by omega) km h (by simp [mu_at]) (by simp [mu_at]) (by simp [mu_at])) mlX9_linesThatEcho (by decide) (by decide) rfl rfl (Nat.le_of_ble_eq_true rfl) dX9_odds_109 rfl (fun r1 M1 hr => ?_)
              obtain ⟨hr1, hs1⟩ := hr
              rw [show (mu (mu (mu M 36 0 (km / 10)) 36 1 (km - km / 10 * 10)) 36 4 h) a = M a from by rw [mu_n _ _ _ (by omega), mu_n _ _ _ (by omega), mu_n _ _ _ (by omega)]] at hr1
              subst hr1
              refine k_istore C 114 [(5, .int (nI (pEch km h (M a) 72))), (4, .int (nI a)), (0, .ref (ga g 90)), (1, .int km), (2, .int h), (3, .int (nI w))]  (by decide) rfl dX9_odds_112 rfl ?_
              refine k_iload C 116 0  rfl dX9_odds_114 rfl ?_
              refine k_callSE C 119 (As := [.int (nI (pEch km h (M a) 72))]) (st := []) mwX9_271 skX9_commonDivisor (qX9_commonDivisor l g M1 (g0 := pEch km h (M a) 72) hge) mlX9_commonDivisor (by decide) (by decide) rfl rfl (Nat.le_of_ble_eq_true rfl) dX9_odds_116 rfl ?_
              refine k_istore C 121 [(6, .int (nI (cdR (pEch km h (M a) 72) 72))), (5, .int (nI (pEch km h (M a) 72))), (4, .int (nI a)), (0, .ref (ga g 90)), (1, .int km), (2, .int h), (3, .int (nI w))]  (by decide) rfl dX9_odds_119 rfl ?_
              refine k_iload_n C 122 6 rfl rfl dX9_odds_121 rfl ?_
              refine k_if_ne C 133 125 dX9_odds_122 (by decide) rfl (fun c122 => ?_) (fun d122 => ?_)
              · skip
                have c122 := mt (nI_eq (by omega) (by omega)).mpr (show ¬ (nI w = nI 0) from c122)
                refine k_bipush C 135 (v := 72) (by decide) dX9_odds_133 rfl ?_
                refine k_iload C 137 0  rfl dX9_odds_135 rfl ?_
                refine k_idiv C 138 (nI_ne0 (by omega) (by omega)) dX9_odds_137 rfl ?_
                refine k_teq (y := nI (72 / (cdR (pEch km h (M a) 72) 72))) (pk_div (a := 72) (d := cdR (pEch km h (M a) 72) 72) (by omega) (by omega) (by omega)) ?_
                refine k_ret C rfl dX9_odds_138 ?_
                exact ⟨by rw [if_neg c122], fun q hq => by rw [hs1 q hq, mu_n _ _ _ hq, mu_n _ _ _ hq, mu_n _ _ _ hq]⟩
              · skip
                have d122 := (nI_eq (by omega) (by omega)).mp (show nI w = nI 0 from d122)
                refine k_iload C 127 1  rfl dX9_odds_125 rfl ?_
                refine k_iload C 129 0  rfl dX9_odds_127 rfl ?_
                refine k_idiv C 130 (nI_ne0 (by omega) (by omega)) dX9_odds_129 rfl ?_
                refine k_teq (y := nI ((pEch km h (M a) 72) / (cdR (pEch km h (M a) 72) 72))) (pk_div (a := pEch km h (M a) 72) (d := cdR (pEch km h (M a) 72) 72) (by omega) (by omega) (by omega)) ?_
                refine k_goto C 138 dX9_odds_130 (by decide) ?_
                refine k_ret C rfl dX9_odds_138 ?_
                exact ⟨by rw [if_pos d122], fun q hq => by rw [hs1 q hq, mu_n _ _ _ hq, mu_n _ _ _ hq, mu_n _ _ _ hq]⟩
            · skip
              have d69 := mt (nI_ltI (by omega) (by omega)).mpr (show ¬ (nI n < nI 12) from d69)
              exact absurd d69 (by omega)
        · skip
          have d20 := mt (nI_leI (by omega) (by omega)).mpr (show ¬ (nI w ≤ nI 1) from d20)
          exact absurd d20 (by omega)
set_option maxHeartbeats 4000000 in
set_option maxRecDepth 20000 in
theorem qX9_tellsLengths (l : Launch) (g : GT) (M : Mem) {s : Nat} (hs : s < 4) {n : Nat} (hn : M 39 1 = nI n) (h12 : n ≤ 12) {z : Nat} (hz : M (81 + s) 2 = nI z) (h24 : z ≤ 24)  : CtrE l g yX9_tellsLengths cX9_tellsLengths 5 (some .boolean) 0 [.ref (ga g (81 + s)), .ref (ga g 39)] M (b2i (decide (tlS (M (85 + s)) z (fF M 2) n = some z))) M := by
  refine ctrI_of (by decide +kernel) (Nat.le_of_ble_eq_true rfl) ?_
  intro pP eE RR sS mI aG bB mE cD C
  refine k_lo (lo' := [(0, .ref (ga g (81 + s))), (1, .ref (ga g 39))]) rfl ?_
  refine k_iconst C 1 (v := 0) (by decide) dX9_tellsLengths_0 rfl ?_
  refine k_istore_n C 2 [(2, .int 0), (0, .ref (ga g (81 + s))), (1, .ref (ga g 39))] rfl (by decide) rfl dX9_tellsLengths_1 rfl ?_
  refine k_iconst C 3 (v := 0) (by decide) dX9_tellsLengths_2 rfl ?_
  refine k_istore_n C 4 [(3, .int 0), (2, .int 0), (0, .ref (ga g (81 + s))), (1, .ref (ga g 39))] rfl (by decide) rfl dX9_tellsLengths_3 rfl ?_
  refine k_sub [(0, .ref (ga g (81 + s))), (1, .ref (ga g 39)), (2, .int 0), (3, .int 0)] [2, 3, 1, 0] rfl ?_
  refine k_all (M' := M) (lo' := [(0, .ref (ga g (81 + s))), (1, .ref (ga g 39)), (2, .int (nI 0)), (3, .int (nI 0))]) (st' := []) (by rfl) (by rfl) rfl ?_
  refine k_loop (σ := Nat × Nat) (fun (v : Nat × Nat) => match v with | (f, c) => (f ≤ n) ∧ (c ≤ f) ∧ (tlS (M (85 + s)) z (fF M 2) f = some c)) (fun (v : Nat × Nat) => match v with | (f, c) => n - f) (fun (v : Nat × Nat) => match v with | (f, c) => M) (fun (v : Nat × Nat) => match v with | (f, c) => [(0, .ref (ga g (81 + s))), (1, .ref (ga g 39)), (2, .int (nI c)), (3, .int (nI f))]) (0, 0) (show (0 ≤ n) ∧ (0 ≤ 0) ∧ (tlS (M (85 + s)) z (fF M 2) 0 = some 0) from by exact ⟨Nat.zero_le _, Nat.le_refl _, rfl⟩) ?_
  rintro ⟨f, c⟩ hI ih
  have hI : (f ≤ n) ∧ (c ≤ f) ∧ (tlS (M (85 + s)) z (fF M 2) f = some c) := hI
  obtain ⟨hf, hc, he⟩ := hI
  show KW pP l eE RR sS mI aG bB mE cD g 5 _ (M) 4 [(0, .ref (ga g (81 + s))), (1, .ref (ga g 39)), (2, .int (nI c)), (3, .int (nI f))] []
  refine k_iload_n C 5 3 rfl rfl dX9_tellsLengths_4 rfl ?_
  refine k_aload_n C 6 1 rfl rfl dX9_tellsLengths_5 rfl ?_
  refine k_get C 9 flX9_95 39 (by decide) (v := .int ((M) 39 1)) (ce_fld g _ (show 2 < 3 by decide)) rfl dX9_tellsLengths_6 rfl ?_
  refine k_teq (y := nI n) hn ?_
  refine k_icmp_ge C 61 12 dX9_tellsLengths_9 (by decide) rfl (fun c9 => ?_) (fun d9 => ?_)
  · skip
    have c9 := (nI_leI (by omega) (by omega)).mp (show nI n ≤ nI f from c9)
    refine k_iload_n C 62 2 rfl rfl dX9_tellsLengths_61 rfl ?_
    refine k_aload_n C 63 0 rfl rfl dX9_tellsLengths_62 rfl ?_
    refine k_get C 66 flX9_306 (81 + s) (lt105_sh hs) (v := .int ((M) (81 + s) 2)) (ce_sh g _ hs) rfl dX9_tellsLengths_63 rfl ?_
    refine k_teq (y := nI z) hz ?_
    refine k_icmp_ne C 73 69 dX9_tellsLengths_66 (by decide) rfl (fun c66 => ?_) (fun d66 => ?_)
    · skip
      have c66 := mt (nI_eq (by omega) (by omega)).mpr (show ¬ (nI c = nI z) from c66)
      refine k_iconst C 74 (v := 0) (by decide) dX9_tellsLengths_73 rfl ?_
      refine k_ret C rfl dX9_tellsLengths_74 ?_
      have e : f = n := by omega
      subst e
      exact ⟨b2i_neg (decide_eq_false (by rw [he]; intro q; exact c66 (Option.some.inj q))), rfl⟩
    · skip
      have d66 := (nI_eq (by omega) (by omega)).mp (show nI c = nI z from d66)
      refine k_iconst C 70 (v := 1) (by decide) dX9_tellsLengths_69 rfl ?_
      refine k_goto C 74 dX9_tellsLengths_70 (by decide) ?_
      refine k_ret C rfl dX9_tellsLengths_74 ?_
      have e : f = n := by omega
      subst e
      exact ⟨b2i_pos (decide_eq_true (by rw [he, d66])), rfl⟩
  · skip
    have d9 := mt (nI_leI (by omega) (by omega)).mpr (show ¬ (nI n ≤ nI f) from d9)
    refine k_aload_n C 13 1 rfl rfl dX9_tellsLengths_12 rfl ?_
    refine k_get C 16 flX9_107 39 (by decide) (v := .ref (ga g 42)) (ce_fld g _ (show 2 < 3 by decide)) rfl dX9_tellsLengths_13 rfl ?_
    refine k_iload_n C 17 3 rfl rfl dX9_tellsLengths_16 rfl ?_
    refine k_aald C 18 42 f 3 (by decide) (ce_fa g _ (show 2 < 3 by decide)) rfl (by decide) rfl (by omega) dX9_tellsLengths_17 rfl ?_
    refine k_st (st' := [.ref (ga g (24 + f))]) rfl ?_
    refine k_astore C 20 [(4, .ref (ga g (24 + f))), (0, .ref (ga g (81 + s))), (1, .ref (ga g 39)), (2, .int (nI c)), (3, .int (nI f))]  (by decide) rfl dX9_tellsLengths_18 rfl ?_
    refine k_aload C 22 0  rfl dX9_tellsLengths_20 rfl ?_
    refine k_get C 25 flX9_129 (24 + f) (lt105_fu (by omega)) (v := .int ((M) (24 + f) 6)) (ce_fu g _ (by omega)) rfl dX9_tellsLengths_22 rfl ?_
    refine k_if_ne C 55 28 dX9_tellsLengths_25 (by decide) rfl (fun c25 => ?_) (fun d25 => ?_)
    · skip
      refine k_iinc C 58 (nI (f + 1)) 4 [(3, .int (nI (f + 1))), (4, .ref (ga g (24 + f))), (0, .ref (ga g (81 + s))), (1, .ref (ga g 39)), (2, .int (nI c))] rfl (iinc_p f) (by decide) rfl dX9_tellsLengths_55 rfl ?_
      refine k_goto C 4 dX9_tellsLengths_58 (by decide) ?_
      refine k_sub [(0, .ref (ga g (81 + s))), (1, .ref (ga g 39)), (2, .int (nI c)), (3, .int (nI (f + 1)))] [2, 3, 4, 0] rfl ?_
      refine k_all (M' := M) (lo' := [(0, .ref (ga g (81 + s))), (1, .ref (ga g 39)), (2, .int (nI c)), (3, .int (nI (f + 1)))]) (st' := []) (by rfl) (by rfl) rfl ?_
      exact ih (f + 1, c) (show ((f + 1) ≤ n) ∧ (c ≤ (f + 1)) ∧ (tlS (M (85 + s)) z (fF M 2) (f + 1) = some c) from by exact ⟨by omega, by omega, by rw [tlS_skip (show ¬ fF M 2 f 6 = 0 from c25)]; exact he⟩) (by show n - (f + 1) < n - f; omega)
    · skip
      refine k_iload_n C 29 3 rfl rfl dX9_tellsLengths_28 rfl ?_
      refine k_aload_n C 30 1 rfl rfl dX9_tellsLengths_29 rfl ?_
      refine k_get C 33 flX9_306 (81 + s) (lt105_sh hs) (v := .int ((M) (81 + s) 2)) (ce_sh g _ hs) rfl dX9_tellsLengths_30 rfl ?_
      refine k_teq (y := nI z) hz ?_
      refine k_icmp_ge C 50 36 dX9_tellsLengths_33 (by decide) rfl (fun c33 => ?_) (fun d33 => ?_)
      · skip
        have c33 := (nI_leI (by omega) (by omega)).mp (show nI z ≤ nI c from c33)
        refine k_iconst C 51 (v := 0) (by decide) dX9_tellsLengths_50 rfl ?_
        refine k_ret C rfl dX9_tellsLengths_51 ?_
        exact ⟨b2i_neg (decide_eq_false (fun q => by
          have e := tlS_no (M (85 + s)) z (fF M 2) (i := f + 1) (tlS_not (show fF M 2 f 6 = 0 from d25) he (fun q => absurd q.1 (by omega))) (n - (f + 1))
          rw [show f + 1 + (n - (f + 1)) = n by omega, q] at e; cases e)), rfl⟩
      · skip
        have d33 := mt (nI_leI (by omega) (by omega)).mpr (show ¬ (nI z ≤ nI c) from d33)
        refine k_aload_n C 37 1 rfl rfl dX9_tellsLengths_36 rfl ?_
        refine k_get C 40 flX9_316 (81 + s) (lt105_sh hs) (v := .ref (ga g (85 + s))) (ce_sh g _ hs) rfl dX9_tellsLengths_37 rfl ?_
        refine k_iload_n C 41 3 rfl rfl dX9_tellsLengths_40 rfl ?_
        refine k_iald C 42 (85 + s) c (lt105_sn hs) (ce_sn g hs) (by decide) rfl (by omega) dX9_tellsLengths_41 rfl ?_
        refine k_aload C 44 0  rfl dX9_tellsLengths_42 rfl ?_
        refine k_get C 47 flX9_117 (24 + f) (lt105_fu (by omega)) (v := .int ((M) (24 + f) 2)) (ce_fu g _ (by omega)) rfl dX9_tellsLengths_44 rfl ?_
        refine k_icmp_eq C 52 50 dX9_tellsLengths_47 (by decide) rfl (fun c47 => ?_) (fun d47 => ?_)
        · skip
          refine k_iinc C 55 (nI (c + 1)) 3 [(2, .int (nI (c + 1))), (4, .ref (ga g (24 + f))), (0, .ref (ga g (81 + s))), (1, .ref (ga g 39)), (3, .int (nI f))] rfl (iinc_p c) (by decide) rfl dX9_tellsLengths_52 rfl ?_
          refine k_iinc C 58 (nI (f + 1)) 4 [(3, .int (nI (f + 1))), (2, .int (nI (c + 1))), (4, .ref (ga g (24 + f))), (0, .ref (ga g (81 + s))), (1, .ref (ga g 39))] rfl (iinc_p f) (by decide) rfl dX9_tellsLengths_55 rfl ?_
          refine k_goto C 4 dX9_tellsLengths_58 (by decide) ?_
          refine k_sub [(0, .ref (ga g (81 + s))), (1, .ref (ga g 39)), (2, .int (nI (c + 1))), (3, .int (nI (f + 1)))] [3, 4, 1, 0] rfl ?_
          refine k_all (M' := M) (lo' := [(0, .ref (ga g (81 + s))), (1, .ref (ga g 39)), (2, .int (nI (c + 1))), (3, .int (nI (f + 1)))]) (st' := []) (by rfl) (by rfl) rfl ?_
          exact ih (f + 1, c + 1) (show ((f + 1) ≤ n) ∧ ((c + 1) ≤ (f + 1)) ∧ (tlS (M (85 + s)) z (fF M 2) (f + 1) = some (c + 1)) from by exact ⟨by omega, by omega, tlS_yes (show fF M 2 f 6 = 0 from d25) he (by omega) c47⟩) (by show n - (f + 1) < n - f; omega)
        · skip
          refine k_iconst C 51 (v := 0) (by decide) dX9_tellsLengths_50 rfl ?_
          refine k_ret C rfl dX9_tellsLengths_51 ?_
          exact ⟨b2i_neg (decide_eq_false (fun q => by
            have e := tlS_no (M (85 + s)) z (fF M 2) (i := f + 1) (tlS_not (show fF M 2 f 6 = 0 from d25) he (fun q => d47 q.2)) (n - (f + 1))
            rw [show f + 1 + (n - (f + 1)) = n by omega, q] at e; cases e)), rfl⟩
set_option maxHeartbeats 4000000 in
set_option maxRecDepth 20000 in
theorem qX9_fits_f (l : Launch) (g : GT) (M : Mem) (s : Int32) (hf : (decide (0 ≤ s) && decide (s < 4)) = false) : CtrE l g yX9_fits cX9_fits 4 (some .int) 4 [.ref (ga g 90), .int s] M (-1000000001) (mu M 89 1 (M 89 1 + 1)) := by
  refine ctrI_of (by decide +kernel) (Nat.le_of_ble_eq_true rfl) ?_
  intro pP eE RR sS mI aG bB mE cD C
  refine k_lo (lo' := [(0, .ref (ga g 90)), (1, .int s)]) rfl ?_
  refine k_iload_n C 1 1 rfl rfl dX9_fits_0 rfl ?_
  refine k_callSE C 4 (As := [.int s]) (st := []) mwX9_274 skX9_isSheet (qX9_isSheet l g M s) mlX9_isSheet (by decide) (by decide) rfl rfl (Nat.le_of_ble_eq_true rfl) dX9_fits_1 rfl ?_
  refine k_if_neB C 14 7 dX9_fits_4 (by decide) rfl (fun c4 => ?_) (fun d4 => ?_)
  · skip
    exact (bz hf c4).elim
  · skip
    refine k_aload_n C 8 0 rfl rfl dX9_fits_7 rfl ?_
    refine k_ldc C 10 cwX9_87 dX9_fits_8 rfl ?_
    refine k_callVE C 13 (As := [.int (-1000000001)]) (st := []) 90 (by decide) (ce_90 g _) rfl rfl mwX9_88 vlX9_refuse (qX9_refuse l g M (-1000000001) (k := 1) (by decide) (by decide) (by decide)) mlX9_refuse (by decide) (by decide) rfl rfl (Nat.le_of_ble_eq_true rfl) dX9_fits_10 rfl ?_
    refine k_ret C rfl dX9_fits_13 ?_
    exact ⟨rfl, rfl⟩
set_option maxHeartbeats 4000000 in
set_option maxRecDepth 20000 in
theorem qX9_fits_0 (l : Launch) (g : GT) (M : Mem) {s : Nat} (hs : s < 4) (h : M (81 + s) 1 = 0) : CtrE l g yX9_fits cX9_fits 4 (some .int) 4 [.ref (ga g 90), .int (nI s)] M (-1000000002) (mu M 89 2 (M 89 2 + 1)) := by
  refine ctrI_of (by decide +kernel) (Nat.le_of_ble_eq_true rfl) ?_
  intro pP eE RR sS mI aG bB mE cD C
  refine k_lo (lo' := [(0, .ref (ga g 90)), (1, .int (nI s))]) rfl ?_
  refine k_iload_n C 1 1 rfl rfl dX9_fits_0 rfl ?_
  refine k_callSE C 4 (As := [.int (nI s)]) (st := []) mwX9_274 skX9_isSheet (qX9_isSheet l g M (nI s)) mlX9_isSheet (by decide) (by decide) rfl rfl (Nat.le_of_ble_eq_true rfl) dX9_fits_1 rfl ?_
  refine k_if_neB C 14 7 dX9_fits_4 (by decide) rfl (fun c4 => ?_) (fun d4 => ?_)
  · skip
    refine k_aload_n C 15 0 rfl rfl dX9_fits_14 rfl ?_
    refine k_get C 18 flX9_68 90 (by decide) (v := .ref (ga g 80)) (ce_90 g _) rfl dX9_fits_15 rfl ?_
    refine k_iload_n C 19 1 rfl rfl dX9_fits_18 rfl ?_
    refine k_aald C 20 80 s 5 (by decide) (ce_80 g _) rfl (by decide) rfl (by omega) dX9_fits_19 rfl ?_
    refine k_st (st' := [.ref (ga g (81 + s))]) rfl ?_
    refine k_astore_n C 21 [(2, .ref (ga g (81 + s))), (0, .ref (ga g 90)), (1, .int (nI s))] rfl (by decide) rfl dX9_fits_20 rfl ?_
    refine k_aload_n C 22 0 rfl rfl dX9_fits_21 rfl ?_
    refine k_callVE C 25 (As := []) (st := []) (81 + s) (lt105_sh (by omega)) (ce_sh g _ (by omega)) rfl rfl mwX9_277 vlX5_isMissing (qX5_isMissing l g M (by omega)) mlX5_isMissing (by decide) (by decide) rfl rfl (Nat.le_of_ble_eq_true rfl) dX9_fits_22 rfl ?_
    refine k_if_eqB C 36 28 dX9_fits_25 (by decide) rfl (fun c25 => ?_) (fun d25 => ?_)
    · skip
      exact absurd h (of_decide_eq_false c25)
    · skip
      refine k_aload_n C 29 1 rfl rfl dX9_fits_28 rfl ?_
      refine k_ldcw C 32 cwX9_280 dX9_fits_29 rfl ?_
      refine k_callVE C 35 (As := [.int (-1000000002)]) (st := []) 90 (by decide) (ce_90 g _) rfl rfl mwX9_88 vlX9_refuse (qX9_refuse l g M (-1000000002) (k := 2) (by decide) (by decide) (by decide)) mlX9_refuse (by decide) (by decide) rfl rfl (Nat.le_of_ble_eq_true rfl) dX9_fits_32 rfl ?_
      refine k_ret C rfl dX9_fits_35 ?_
      exact ⟨rfl, rfl⟩
  · skip
    exact (bz d4 (rg_lt (b := 4) hs (by decide))).elim
set_option maxHeartbeats 4000000 in
set_option maxRecDepth 20000 in
theorem qX9_fits_t (l : Launch) (g : GT) (M : Mem) {n : Nat} (hn : M 37 1 = nI n) (h12 : n ≤ 12) (hcov : ∀ i, i < n → M (12 * 0 + i) 6 = 0 ∨ M (12 * 0 + i) 6 = 1) {s : Nat} (hs : s < 4) (h : ¬ M (81 + s) 1 = 0) {z : Nat} (hz : M (81 + s) 2 = nI z) (h24 : z ≤ 24)  : CtrI l g yX9_fits cX9_fits 4 (some .int) 4 [.ref (ga g 90), .int (nI s)] M (fun r M2 => ∃ M1, cpF M M1 2 0 n ∧ ((∃ i, pFit (fun i => decide (tlS (M (85 + s)) z (fF (pYMs M1 2 n (M1 39 3) i) 2) n = some z)) 61 0 = some i ∧ r = nI i ∧ M2 = pYMs M1 2 n (M1 39 3) i) ∨ (pFit (fun i => decide (tlS (M (85 + s)) z (fF (pYMs M1 2 n (M1 39 3) i) 2) n = some z)) 61 0 = none ∧ r = (-1000000002) ∧ M2 = mu (pYMs M1 2 n (M1 39 3) 61) 89 2 ((pYMs M1 2 n (M1 39 3) 61) 89 2 + 1)))) := by
  refine ctrI_of (by decide +kernel) (Nat.le_of_ble_eq_true rfl) ?_
  intro pP eE RR sS mI aG bB mE cD C
  refine k_lo (lo' := [(0, .ref (ga g 90)), (1, .int (nI s))]) rfl ?_
  refine k_iload_n C 1 1 rfl rfl dX9_fits_0 rfl ?_
  refine k_callSE C 4 (As := [.int (nI s)]) (st := []) mwX9_274 skX9_isSheet (qX9_isSheet l g M (nI s)) mlX9_isSheet (by decide) (by decide) rfl rfl (Nat.le_of_ble_eq_true rfl) dX9_fits_1 rfl ?_
  refine k_if_neB C 14 7 dX9_fits_4 (by decide) rfl (fun c4 => ?_) (fun d4 => ?_)
  · skip
    refine k_aload_n C 15 0 rfl rfl dX9_fits_14 rfl ?_
    refine k_get C 18 flX9_68 90 (by decide) (v := .ref (ga g 80)) (ce_90 g _) rfl dX9_fits_15 rfl ?_
    refine k_iload_n C 19 1 rfl rfl dX9_fits_18 rfl ?_
    refine k_aald C 20 80 s 5 (by decide) (ce_80 g _) rfl (by decide) rfl (by omega) dX9_fits_19 rfl ?_
    refine k_st (st' := [.ref (ga g (81 + s))]) rfl ?_
    refine k_astore_n C 21 [(2, .ref (ga g (81 + s))), (0, .ref (ga g 90)), (1, .int (nI s))] rfl (by decide) rfl dX9_fits_20 rfl ?_
    refine k_aload_n C 22 0 rfl rfl dX9_fits_21 rfl ?_
    refine k_callVE C 25 (As := []) (st := []) (81 + s) (lt105_sh (by omega)) (ce_sh g _ (by omega)) rfl rfl mwX9_277 vlX5_isMissing (qX5_isMissing l g M (by omega)) mlX5_isMissing (by decide) (by decide) rfl rfl (Nat.le_of_ble_eq_true rfl) dX9_fits_22 rfl ?_
    refine k_if_eqB C 36 28 dX9_fits_25 (by decide) rfl (fun c25 => ?_) (fun d25 => ?_)
    · skip
      refine k_aload_n C 37 1 rfl rfl dX9_fits_36 rfl ?_
      refine k_get C 40 flX9_22 90 (by decide) (v := .ref (ga g 39)) (ce_90 g _) rfl dX9_fits_37 rfl ?_
      refine k_aload_n C 41 1 rfl rfl dX9_fits_40 rfl ?_
      refine k_get C 44 flX9_12 90 (by decide) (v := .ref (ga g 43)) (ce_90 g _) rfl dX9_fits_41 rfl ?_
      refine k_get C 47 flX9_92 43 (by decide) (v := .ref (ga g 37)) (ce_wld g _ (show 0 < 2 by decide)) rfl dX9_fits_44 rfl ?_
      refine k_callVV C 50 (As := [.ref (ga g 37)]) (st := []) 39 (by decide) (ce_fld g _ (show 2 < 3 by decide)) rfl rfl mwX9_238 vlX1_copyFrom (qX1_copyFrom l g M (fi := 2) (fo := 0) (by decide) (by decide) (by decide) (n := n) hn h12 hcov) mlX1_copyFrom (by decide) (by decide) rfl rfl (Nat.le_of_ble_eq_true rfl) dX9_fits_47 rfl (fun M1 hF => ?_)
      refine k_iconst C 51 (v := 0) (by decide) dX9_fits_50 rfl ?_
      refine k_istore_n C 52 [(3, .int 0), (2, .ref (ga g (81 + s))), (0, .ref (ga g 90)), (1, .int (nI s))] rfl (by decide) rfl dX9_fits_51 rfl ?_
      refine k_sub [(0, .ref (ga g 90)), (2, .ref (ga g (81 + s))), (3, .int 0)] [2, 1, 0] rfl ?_
      refine k_all (M' := pYMs M1 2 n (M1 39 3) 0) (lo' := [(0, .ref (ga g 90)), (2, .ref (ga g (81 + s))), (3, .int (nI 0))]) (st' := []) (by rfl) (by rfl) rfl ?_
      refine k_loop (σ := Nat) (fun (ii : Nat) => (ii ≤ 61) ∧ (pFit (fun i => decide (tlS (M (85 + s)) z (fF (pYMs M1 2 n (M1 39 3) i) 2) n = some z)) 61 0 = pFit (fun i => decide (tlS (M (85 + s)) z (fF (pYMs M1 2 n (M1 39 3) i) 2) n = some z)) (61 - ii) ii)) (fun (ii : Nat) => 61 - ii) (fun (ii : Nat) => pYMs M1 2 n (M1 39 3) ii) (fun (ii : Nat) => [(0, .ref (ga g 90)), (2, .ref (ga g (81 + s))), (3, .int (nI ii))]) 0 (show (0 ≤ 61) ∧ (pFit (fun i => decide (tlS (M (85 + s)) z (fF (pYMs M1 2 n (M1 39 3) i) 2) n = some z)) 61 0 = pFit (fun i => decide (tlS (M (85 + s)) z (fF (pYMs M1 2 n (M1 39 3) i) 2) n = some z)) (61 - 0) 0) from by exact ⟨Nat.zero_le _, rfl⟩) ?_
      rintro ii hI ih
      have hI : (ii ≤ 61) ∧ (pFit (fun i => decide (tlS (M (85 + s)) z (fF (pYMs M1 2 n (M1 39 3) i) 2) n = some z)) 61 0 = pFit (fun i => decide (tlS (M (85 + s)) z (fF (pYMs M1 2 n (M1 39 3) i) 2) n = some z)) (61 - ii) ii) := hI
      obtain ⟨hi, he⟩ := hI
      show KW pP l eE RR sS mI aG bB mE cD g 4 _ (pYMs M1 2 n (M1 39 3) ii) 52 [(0, .ref (ga g 90)), (2, .ref (ga g (81 + s))), (3, .int (nI ii))] []
      refine k_iload_n C 53 2 rfl rfl dX9_fits_52 rfl ?_
      refine k_bipush C 55 (v := 60) (by decide) dX9_fits_53 rfl ?_
      refine k_icmp_gt C 84 58 dX9_fits_55 (by decide) rfl (fun c55 => ?_) (fun d55 => ?_)
      · skip
        have c55 := (nI_ltI (by omega) (by omega)).mp (show nI 60 < nI ii from c55)
        refine k_aload_n C 85 0 rfl rfl dX9_fits_84 rfl ?_
        refine k_ldcw C 88 cwX9_280 dX9_fits_85 rfl ?_
        refine k_callVE C 91 (As := [.int (-1000000002)]) (st := []) 90 (by decide) (ce_90 g _) rfl rfl mwX9_88 vlX9_refuse (qX9_refuse l g (pYMs M1 2 n (M1 39 3) ii) (-1000000002) (k := 2) (by decide) (by decide) (by decide)) mlX9_refuse (by decide) (by decide) rfl rfl (Nat.le_of_ble_eq_true rfl) dX9_fits_88 rfl ?_
        refine k_ret C rfl dX9_fits_91 ?_
        have e61 : ii = 61 := by omega
        subst e61
        exact ⟨M1, hF, Or.inr ⟨by rw [he, pFit_end (by omega)], rfl, rfl⟩⟩
      · skip
        have d55 := mt (nI_ltI (by omega) (by omega)).mpr (show ¬ (nI 60 < nI ii) from d55)
        refine k_aload_n C 59 1 rfl rfl dX9_fits_58 rfl ?_
        refine k_aload_n C 60 0 rfl rfl dX9_fits_59 rfl ?_
        refine k_get C 63 flX9_22 90 (by decide) (v := .ref (ga g 39)) (ce_90 g _) rfl dX9_fits_60 rfl ?_
        refine k_callSE C 66 (As := [.ref (ga g (81 + s)), .ref (ga g 39)]) (st := []) mwX9_281 skX9_tellsLengths (by have q := qX9_tellsLengths l g (pYMs M1 2 n (M1 39 3) ii) (s := s) hs (n := n) ((pYMs_at (fi := 2) (by decide) _ _ _ 1 (by decide) _).trans ((hF.2.1 1 (by decide) (by decide)).trans hn)) h12 (z := z) (by rw [(pYMs_o (fi := 2) _ _ _ (by omega) (by omega) _)]; exact (congrFun (hF.2.2 _ (by omega) (by omega)) 2).trans hz) h24; rw [show (pYMs M1 2 n (M1 39 3) ii) (85 + s) = M (85 + s) from by rw [(pYMs_o (fi := 2) _ _ _ (by omega) (by omega) _)]; exact hF.2.2 _ (by omega) (by omega)] at q; exact q) mlX9_tellsLengths (by decide) (by decide) rfl rfl (Nat.le_of_ble_eq_true rfl) dX9_fits_63 rfl ?_
        refine k_if_eqB C 71 69 dX9_fits_66 (by decide) rfl (fun c66 => ?_) (fun d66 => ?_)
        · skip
          refine k_aload_n C 72 0 rfl rfl dX9_fits_71 rfl ?_
          refine k_get C 75 flX9_22 90 (by decide) (v := .ref (ga g 39)) (ce_90 g _) rfl dX9_fits_72 rfl ?_
          refine k_callVU C 78 (As := []) (st := []) 39 (by decide) (ce_fld g _ (show 2 < 3 by decide)) rfl rfl mwX9_285 vlX1_passYear (by have q := qX1_passYear l g (pYMs M1 2 n (M1 39 3) ii) (fi := 2) (by decide) (n := n) ((pYMs_at (fi := 2) (by decide) _ _ _ 1 (by decide) _).trans ((hF.2.1 1 (by decide) (by decide)).trans hn)) h12; rw [show (pYMs M1 2 n (M1 39 3) ii) (37 + 2) 3 = M1 39 3 from pYMs_at (fi := 2) (by decide) _ _ _ 3 (by decide) _] at q; exact q) mlX1_passYear (by decide) (by decide) rfl rfl (Nat.le_of_ble_eq_true rfl) dX9_fits_75 rfl ?_
          refine k_iinc C 81 (nI (ii + 1)) 2 [(3, .int (nI (ii + 1))), (0, .ref (ga g 90)), (2, .ref (ga g (81 + s)))] rfl (iinc_p ii) (by decide) rfl dX9_fits_78 rfl ?_
          refine k_goto C 52 dX9_fits_81 (by decide) ?_
          refine k_sub [(0, .ref (ga g 90)), (2, .ref (ga g (81 + s))), (3, .int (nI (ii + 1)))] [1, 2, 0] rfl ?_
          refine k_all (M' := pYMs M1 2 n (M1 39 3) (ii + 1)) (lo' := [(0, .ref (ga g 90)), (2, .ref (ga g (81 + s))), (3, .int (nI (ii + 1)))]) (st' := []) (by rfl) (by rfl) rfl ?_
          exact ih (ii + 1) (show ((ii + 1) ≤ 61) ∧ (pFit (fun i => decide (tlS (M (85 + s)) z (fF (pYMs M1 2 n (M1 39 3) i) 2) n = some z)) 61 0 = pFit (fun i => decide (tlS (M (85 + s)) z (fF (pYMs M1 2 n (M1 39 3) i) 2) n = some z)) (61 - (ii + 1)) (ii + 1)) from by exact ⟨by omega, by rw [he, pFit_go (by omega) c66]⟩) (by show 61 - (ii + 1) < _; omega)
        · skip
          refine k_iload_n C 70 2 rfl rfl dX9_fits_69 rfl ?_
          refine k_ret C rfl dX9_fits_70 ?_
          exact ⟨M1, hF, Or.inl ⟨ii, by rw [he, pFit_hit (by omega) d66], rfl, rfl⟩⟩
    · skip
      exact absurd (of_decide_eq_true d25) h
  · skip
    exact (bz d4 (rg_lt (b := 4) hs (by decide))).elim
set_option maxHeartbeats 4000000 in
set_option maxRecDepth 20000 in
theorem qX9_voice_f (l : Launch) (g : GT) (M : Mem) {n : Nat} (hn : M 37 1 = nI n) (h12 : n ≤ 12) (f v x : Int32) (hf : (pIsF n f && (decide (0 ≤ v) && decide (v < 4))) = false) : CtrE l g yX9_voice cX9_voice 5 (some .int) 10 [.ref (ga g 90), .int f, .int v, .int x] M (-1000000001) (mu M 89 1 (M 89 1 + 1)) := by
  refine ctrI_of (by decide +kernel) (Nat.le_of_ble_eq_true rfl) ?_
  intro pP eE RR sS mI aG bB mE cD C
  refine k_lo (lo' := [(0, .ref (ga g 90)), (1, .int f), (2, .int v), (3, .int x)]) rfl ?_
  refine k_aload_n C 1 0 rfl rfl dX9_voice_0 rfl ?_
  refine k_iload_n C 2 1 rfl rfl dX9_voice_1 rfl ?_
  refine k_callVE C 5 (As := [.int f]) (st := []) 90 (by decide) (ce_90 g _) rfl rfl mwX9_104 vlX9_isFurrow (qX9_isFurrow l g M (n := n) hn h12 f) mlX9_isFurrow (by decide) (by decide) rfl rfl (Nat.le_of_ble_eq_true rfl) dX9_voice_2 rfl ?_
  refine k_if_eqB C 17 8 dX9_voice_5 (by decide) rfl (fun c5 => ?_) (fun d5 => ?_)
  · skip
    refine k_aload_n C 18 0 rfl rfl dX9_voice_17 rfl ?_
    refine k_ldc C 20 cwX9_87 dX9_voice_18 rfl ?_
    refine k_callVE C 23 (As := [.int (-1000000001)]) (st := []) 90 (by decide) (ce_90 g _) rfl rfl mwX9_88 vlX9_refuse (qX9_refuse l g M (-1000000001) (k := 1) (by decide) (by decide) (by decide)) mlX9_refuse (by decide) (by decide) rfl rfl (Nat.le_of_ble_eq_true rfl) dX9_voice_20 rfl ?_
    refine k_ret C rfl dX9_voice_23 ?_
    exact ⟨rfl, rfl⟩
  · skip
    refine k_iload_n C 9 2 rfl rfl dX9_voice_8 rfl ?_
    refine k_if_lt C 17 12 dX9_voice_9 (by decide) rfl (fun c9 => ?_) (fun d9 => ?_)
    · skip
      refine k_aload_n C 18 0 rfl rfl dX9_voice_17 rfl ?_
      refine k_ldc C 20 cwX9_87 dX9_voice_18 rfl ?_
      refine k_callVE C 23 (As := [.int (-1000000001)]) (st := []) 90 (by decide) (ce_90 g _) rfl rfl mwX9_88 vlX9_refuse (qX9_refuse l g M (-1000000001) (k := 1) (by decide) (by decide) (by decide)) mlX9_refuse (by decide) (by decide) rfl rfl (Nat.le_of_ble_eq_true rfl) dX9_voice_20 rfl ?_
      refine k_ret C rfl dX9_voice_23 ?_
      exact ⟨rfl, rfl⟩
    · skip
      refine k_iload_n C 13 2 rfl rfl dX9_voice_12 rfl ?_
      refine k_iconst C 14 (v := 4) (by decide) dX9_voice_13 rfl ?_
      refine k_icmp_lt C 24 17 dX9_voice_14 (by decide) rfl (fun c14 => ?_) (fun d14 => ?_)
      · skip
        exact (bz hf (by rw [d5, decide_eq_true (Int32.not_lt.mp d9), decide_eq_true c14]; rfl)).elim
      · skip
        refine k_aload_n C 18 0 rfl rfl dX9_voice_17 rfl ?_
        refine k_ldc C 20 cwX9_87 dX9_voice_18 rfl ?_
        refine k_callVE C 23 (As := [.int (-1000000001)]) (st := []) 90 (by decide) (ce_90 g _) rfl rfl mwX9_88 vlX9_refuse (qX9_refuse l g M (-1000000001) (k := 1) (by decide) (by decide) (by decide)) mlX9_refuse (by decide) (by decide) rfl rfl (Nat.le_of_ble_eq_true rfl) dX9_voice_20 rfl ?_
        refine k_ret C rfl dX9_voice_23 ?_
        exact ⟨rfl, rfl⟩
set_option maxHeartbeats 4000000 in
set_option maxRecDepth 20000 in
theorem qX9_voice_t (l : Launch) (g : GT) (M : Mem) {n : Nat} (hn : M 37 1 = nI n) (h12 : n ≤ 12) {f : Nat} (hf : f < n) {v : Nat} (hv : v < 4) (x : Int32) : CtrE l g yX9_voice cX9_voice 5 (some .int) 10 [.ref (ga g 90), .int (nI f), .int (nI v), .int x] M (if pOff (nI v) (nI f) (M f 1) then (-1000000006) else pVoice (nI v) (M f 0) (nI f) (M f 1) x) (if pOff (nI v) (nI f) (M f 1) then mu (trC (spkP M f (nI f) (nI v)) (bgs (0, M 79) (bVoice (nI v) (M f 0) (nI f) (M f 1)))) 89 6 ((trC (spkP M f (nI f) (nI v)) (bgs (0, M 79) (bVoice (nI v) (M f 0) (nI f) (M f 1)))) 89 6 + 1) else trC (spkP M f (nI f) (nI v)) (bgs (0, M 79) (bVoice (nI v) (M f 0) (nI f) (M f 1)))) := by
  refine ctrI_of (by decide +kernel) (Nat.le_of_ble_eq_true rfl) ?_
  intro pP eE RR sS mI aG bB mE cD C
  refine k_lo (lo' := [(0, .ref (ga g 90)), (1, .int (nI f)), (2, .int (nI v)), (3, .int x)]) rfl ?_
  refine k_aload_n C 1 0 rfl rfl dX9_voice_0 rfl ?_
  refine k_iload_n C 2 1 rfl rfl dX9_voice_1 rfl ?_
  refine k_callVE C 5 (As := [.int (nI f)]) (st := []) 90 (by decide) (ce_90 g _) rfl rfl mwX9_104 vlX9_isFurrow (qX9_isFurrow l g M (n := n) hn h12 (nI f)) mlX9_isFurrow (by decide) (by decide) rfl rfl (Nat.le_of_ble_eq_true rfl) dX9_voice_2 rfl ?_
  refine k_if_eqB C 17 8 dX9_voice_5 (by decide) rfl (fun c5 => ?_) (fun d5 => ?_)
  · skip
    exact (bz c5 (pIsF_lt h12 hf)).elim
  · skip
    refine k_iload_n C 9 2 rfl rfl dX9_voice_8 rfl ?_
    refine k_if_lt C 17 12 dX9_voice_9 (by decide) rfl (fun c9 => ?_) (fun d9 => ?_)
    · skip
      have c9 := (nI_ltI (by omega) (by omega)).mp (show nI v < nI 0 from c9)
      exact absurd c9 (by omega)
    · skip
      have d9 := mt (nI_ltI (by omega) (by omega)).mpr (show ¬ (nI v < nI 0) from d9)
      refine k_iload_n C 13 2 rfl rfl dX9_voice_12 rfl ?_
      refine k_iconst C 14 (v := 4) (by decide) dX9_voice_13 rfl ?_
      refine k_icmp_lt C 24 17 dX9_voice_14 (by decide) rfl (fun c14 => ?_) (fun d14 => ?_)
      · skip
        have c14 := (nI_ltI (by omega) (by omega)).mp (show nI v < nI 4 from c14)
        refine k_aload_n C 25 0 rfl rfl dX9_voice_24 rfl ?_
        refine k_get C 28 flX9_62 90 (by decide) (v := .ref (ga g 78)) (ce_90 g _) rfl dX9_voice_25 rfl ?_
        refine k_aload_n C 29 0 rfl rfl dX9_voice_28 rfl ?_
        refine k_get C 32 flX9_12 90 (by decide) (v := .ref (ga g 43)) (ce_90 g _) rfl dX9_voice_29 rfl ?_
        refine k_get C 35 flX9_92 43 (by decide) (v := .ref (ga g 37)) (ce_wld g _ (show 0 < 2 by decide)) rfl dX9_voice_32 rfl ?_
        refine k_get C 38 flX9_107 37 (by decide) (v := .ref (ga g 40)) (ce_fld g _ (show 0 < 3 by decide)) rfl dX9_voice_35 rfl ?_
        refine k_iload_n C 39 1 rfl rfl dX9_voice_38 rfl ?_
        refine k_aald C 40 40 f 3 (by decide) (ce_fa g _ (show 0 < 3 by decide)) rfl (by decide) rfl (by omega) dX9_voice_39 rfl ?_
        refine k_st (st' := [.ref (ga g f), .ref (ga g 78)]) (by simp only [Nat.mul_zero, Nat.zero_add]) ?_
        refine k_iload_n C 41 1 rfl rfl dX9_voice_40 rfl ?_
        refine k_iload_n C 42 2 rfl rfl dX9_voice_41 rfl ?_
        refine k_iload_n C 43 3 rfl rfl dX9_voice_42 rfl ?_
        refine k_callVE C 46 (As := [.ref (ga g f), .int (nI f), .int (nI v), .int x]) (st := []) 78 (by decide) (ce_78 g _) rfl rfl mwX9_288 vlX6_speak (qX6_speak l g M (k := f) (by omega) (nI f) (nI v) x) mlX6_speak (by decide) (by decide) rfl rfl (Nat.le_of_ble_eq_true rfl) dX9_voice_43 rfl ?_
        refine k_istore C 48 [(4, .int (pVoice (nI v) (M f 0) (nI f) (M f 1) x)), (0, .ref (ga g 90)), (1, .int (nI f)), (2, .int (nI v)), (3, .int x)]  (by decide) rfl dX9_voice_46 rfl ?_
        refine k_aload_n C 49 1 rfl rfl dX9_voice_48 rfl ?_
        refine k_get C 52 flX9_62 90 (by decide) (v := .ref (ga g 78)) (ce_90 g _) rfl dX9_voice_49 rfl ?_
        refine k_get C 55 flX9_292 78 (by decide) (v := .int ((trC (spkP M f (nI f) (nI v)) (bgs (0, M 79) (bVoice (nI v) (M f 0) (nI f) (M f 1)))) 78 2)) (ce_78 g _) rfl dX9_voice_52 rfl ?_
        refine k_teq (y := b2i (pOff (nI v) (nI f) (M f 1))) (by rw [trC_o _ _ (by decide), spkP_2]; cases pOff (nI v) (nI f) (M f 1) <;> rfl) ?_
        refine k_if_eqB C 68 58 dX9_voice_55 (by decide) rfl (fun c55 => ?_) (fun d55 => ?_)
        · skip
          refine k_iload C 70 0  rfl dX9_voice_68 rfl ?_
          refine k_ret C rfl dX9_voice_70 ?_
          exact ⟨by rw [c55]; rfl, by rw [c55]; rfl⟩
        · skip
          refine k_aload_n C 59 1 rfl rfl dX9_voice_58 rfl ?_
          refine k_ldcw C 62 cwX9_295 dX9_voice_59 rfl ?_
          refine k_callVE C 65 (As := [.int (-1000000006)]) (st := []) 90 (by decide) (ce_90 g _) rfl rfl mwX9_88 vlX9_refuse (qX9_refuse l g (trC (spkP M f (nI f) (nI v)) (bgs (0, M 79) (bVoice (nI v) (M f 0) (nI f) (M f 1)))) (-1000000006) (k := 6) (by decide) (by decide) (by decide)) mlX9_refuse (by decide) (by decide) rfl rfl (Nat.le_of_ble_eq_true rfl) dX9_voice_62 rfl ?_
          refine k_goto C 70 dX9_voice_65 (by decide) ?_
          refine k_ret C rfl dX9_voice_70 ?_
          exact ⟨by rw [d55]; rfl, by rw [d55]; rfl⟩
      · skip
        have d14 := mt (nI_ltI (by omega) (by omega)).mpr (show ¬ (nI v < nI 4) from d14)
        exact absurd d14 (by omega)
set_option maxHeartbeats 4000000 in
set_option maxRecDepth 20000 in
theorem qX9_move_f (l : Launch) (g : GT) (M : Mem) (s t : Int32) (a b n : Int32) (hf : ((decide (0 ≤ s) && decide (s < 4)) && (decide (0 ≤ t) && decide (t < 4))) = false) : CtrE l g yX9_move cX9_move 8 (some .int) 1 [.ref (ga g 90), .int s, .int a, .int t, .int b, .int n] M (-1000000001) (mu M 89 1 (M 89 1 + 1)) := by
  refine ctrI_of (by decide +kernel) (Nat.le_of_ble_eq_true rfl) ?_
  intro pP eE RR sS mI aG bB mE cD C
  refine k_lo (lo' := [(0, .ref (ga g 90)), (1, .int s), (2, .int a), (3, .int t), (4, .int b), (5, .int n)]) rfl ?_
  refine k_iload_n C 1 1 rfl rfl dX9_move_0 rfl ?_
  refine k_callSE C 4 (As := [.int s]) (st := []) mwX9_274 skX9_isSheet (qX9_isSheet l g M s) mlX9_isSheet (by decide) (by decide) rfl rfl (Nat.le_of_ble_eq_true rfl) dX9_move_1 rfl ?_
  refine k_if_eqB C 14 7 dX9_move_4 (by decide) rfl (fun c4 => ?_) (fun d4 => ?_)
  · skip
    refine k_aload_n C 15 0 rfl rfl dX9_move_14 rfl ?_
    refine k_ldc C 17 cwX9_87 dX9_move_15 rfl ?_
    refine k_callVE C 20 (As := [.int (-1000000001)]) (st := []) 90 (by decide) (ce_90 g _) rfl rfl mwX9_88 vlX9_refuse (qX9_refuse l g M (-1000000001) (k := 1) (by decide) (by decide) (by decide)) mlX9_refuse (by decide) (by decide) rfl rfl (Nat.le_of_ble_eq_true rfl) dX9_move_17 rfl ?_
    refine k_ret C rfl dX9_move_20 ?_
    exact ⟨rfl, rfl⟩
  · skip
    refine k_iload_n C 8 3 rfl rfl dX9_move_7 rfl ?_
    refine k_callSE C 11 (As := [.int t]) (st := []) mwX9_274 skX9_isSheet (qX9_isSheet l g M t) mlX9_isSheet (by decide) (by decide) rfl rfl (Nat.le_of_ble_eq_true rfl) dX9_move_8 rfl ?_
    refine k_if_neB C 21 14 dX9_move_11 (by decide) rfl (fun c11 => ?_) (fun d11 => ?_)
    · skip
      exact (bz hf (by rw [d4, c11]; rfl)).elim
    · skip
      refine k_aload_n C 15 0 rfl rfl dX9_move_14 rfl ?_
      refine k_ldc C 17 cwX9_87 dX9_move_15 rfl ?_
      refine k_callVE C 20 (As := [.int (-1000000001)]) (st := []) 90 (by decide) (ce_90 g _) rfl rfl mwX9_88 vlX9_refuse (qX9_refuse l g M (-1000000001) (k := 1) (by decide) (by decide) (by decide)) mlX9_refuse (by decide) (by decide) rfl rfl (Nat.le_of_ble_eq_true rfl) dX9_move_17 rfl ?_
      refine k_ret C rfl dX9_move_20 ?_
      exact ⟨rfl, rfl⟩
set_option maxHeartbeats 4000000 in
set_option maxRecDepth 20000 in
theorem qX9_move_0 (l : Launch) (g : GT) (M : Mem) {s t : Nat} (hs : s < 4) (ht : t < 4) (a b n : Int32) (h : M (81 + s) 1 = 0 ∨ M (81 + t) 1 = 0) : CtrE l g yX9_move cX9_move 8 (some .int) 1 [.ref (ga g 90), .int (nI s), .int a, .int (nI t), .int b, .int n] M (-1000000002) (mu M 89 2 (M 89 2 + 1)) := by
  refine ctrI_of (by decide +kernel) (Nat.le_of_ble_eq_true rfl) ?_
  intro pP eE RR sS mI aG bB mE cD C
  refine k_lo (lo' := [(0, .ref (ga g 90)), (1, .int (nI s)), (2, .int a), (3, .int (nI t)), (4, .int b), (5, .int n)]) rfl ?_
  refine k_iload_n C 1 1 rfl rfl dX9_move_0 rfl ?_
  refine k_callSE C 4 (As := [.int (nI s)]) (st := []) mwX9_274 skX9_isSheet (qX9_isSheet l g M (nI s)) mlX9_isSheet (by decide) (by decide) rfl rfl (Nat.le_of_ble_eq_true rfl) dX9_move_1 rfl ?_
  refine k_if_eqB C 14 7 dX9_move_4 (by decide) rfl (fun c4 => ?_) (fun d4 => ?_)
  · skip
    exact (bz c4 (rg_lt (b := 4) hs (by decide))).elim
  · skip
    refine k_iload_n C 8 3 rfl rfl dX9_move_7 rfl ?_
    refine k_callSE C 11 (As := [.int (nI t)]) (st := []) mwX9_274 skX9_isSheet (qX9_isSheet l g M (nI t)) mlX9_isSheet (by decide) (by decide) rfl rfl (Nat.le_of_ble_eq_true rfl) dX9_move_8 rfl ?_
    refine k_if_neB C 21 14 dX9_move_11 (by decide) rfl (fun c11 => ?_) (fun d11 => ?_)
    · skip
      refine k_aload_n C 22 0 rfl rfl dX9_move_21 rfl ?_
      refine k_get C 25 flX9_68 90 (by decide) (v := .ref (ga g 80)) (ce_90 g _) rfl dX9_move_22 rfl ?_
      refine k_iload_n C 26 1 rfl rfl dX9_move_25 rfl ?_
      refine k_aald C 27 80 s 5 (by decide) (ce_80 g _) rfl (by decide) rfl (by omega) dX9_move_26 rfl ?_
      refine k_st (st' := [.ref (ga g (81 + s))]) rfl ?_
      refine k_astore C 29 [(6, .ref (ga g (81 + s))), (0, .ref (ga g 90)), (1, .int (nI s)), (2, .int a), (3, .int (nI t)), (4, .int b), (5, .int n)]  (by decide) rfl dX9_move_27 rfl ?_
      refine k_aload_n C 30 1 rfl rfl dX9_move_29 rfl ?_
      refine k_get C 33 flX9_68 90 (by decide) (v := .ref (ga g 80)) (ce_90 g _) rfl dX9_move_30 rfl ?_
      refine k_iload_n C 34 4 rfl rfl dX9_move_33 rfl ?_
      refine k_aald C 35 80 t 5 (by decide) (ce_80 g _) rfl (by decide) rfl (by omega) dX9_move_34 rfl ?_
      refine k_st (st' := [.ref (ga g (81 + t))]) rfl ?_
      refine k_astore C 37 [(7, .ref (ga g (81 + t))), (6, .ref (ga g (81 + s))), (0, .ref (ga g 90)), (1, .int (nI s)), (2, .int a), (3, .int (nI t)), (4, .int b), (5, .int n)]  (by decide) rfl dX9_move_35 rfl ?_
      refine k_aload C 39 1  rfl dX9_move_37 rfl ?_
      refine k_callVE C 42 (As := []) (st := []) (81 + s) (lt105_sh (by omega)) (ce_sh g _ (by omega)) rfl rfl mwX9_277 vlX5_isMissing (qX5_isMissing l g M (k := s) hs) mlX5_isMissing (by decide) (by decide) rfl rfl (Nat.le_of_ble_eq_true rfl) dX9_move_39 rfl ?_
      refine k_if_neB C 53 45 dX9_move_42 (by decide) rfl (fun c42 => ?_) (fun d42 => ?_)
      · skip
        refine k_aload_n C 54 2 rfl rfl dX9_move_53 rfl ?_
        refine k_ldcw C 57 cwX9_280 dX9_move_54 rfl ?_
        refine k_callVE C 60 (As := [.int (-1000000002)]) (st := []) 90 (by decide) (ce_90 g _) rfl rfl mwX9_88 vlX9_refuse (qX9_refuse l g M (-1000000002) (k := 2) (by decide) (by decide) (by decide)) mlX9_refuse (by decide) (by decide) rfl rfl (Nat.le_of_ble_eq_true rfl) dX9_move_57 rfl ?_
        refine k_ret C rfl dX9_move_60 ?_
        exact ⟨rfl, rfl⟩
      · skip
        refine k_aload C 47 0  rfl dX9_move_45 rfl ?_
        refine k_callVE C 50 (As := []) (st := []) (81 + t) (lt105_sh (by omega)) (ce_sh g _ (by omega)) rfl rfl mwX9_277 vlX5_isMissing (qX5_isMissing l g M (k := t) ht) mlX5_isMissing (by decide) (by decide) rfl rfl (Nat.le_of_ble_eq_true rfl) dX9_move_47 rfl ?_
        refine k_if_eqB C 61 53 dX9_move_50 (by decide) rfl (fun c50 => ?_) (fun d50 => ?_)
        · skip
          exact (h.elim (of_decide_eq_false d42) (of_decide_eq_false c50)).elim
        · skip
          refine k_aload_n C 54 2 rfl rfl dX9_move_53 rfl ?_
          refine k_ldcw C 57 cwX9_280 dX9_move_54 rfl ?_
          refine k_callVE C 60 (As := [.int (-1000000002)]) (st := []) 90 (by decide) (ce_90 g _) rfl rfl mwX9_88 vlX9_refuse (qX9_refuse l g M (-1000000002) (k := 2) (by decide) (by decide) (by decide)) mlX9_refuse (by decide) (by decide) rfl rfl (Nat.le_of_ble_eq_true rfl) dX9_move_57 rfl ?_
          refine k_ret C rfl dX9_move_60 ?_
          exact ⟨rfl, rfl⟩
    · skip
      exact (bz d11 (rg_lt (b := 4) ht (by decide))).elim
set_option maxHeartbeats 4000000 in
set_option maxRecDepth 20000 in
theorem qX9_move_d (l : Launch) (g : GT) (M : Mem) {s t : Nat} (hs : s < 4) (ht : t < 4) (a b n : Int32) (h1 : ¬ M (81 + s) 1 = 0) (h2 : ¬ M (81 + t) 1 = 0) (h3 : ¬ M (81 + s) 1 = M (81 + t) 1) : CtrE l g yX9_move cX9_move 8 (some .int) 1 [.ref (ga g 90), .int (nI s), .int a, .int (nI t), .int b, .int n] M (-1000000005) (mu M 89 5 (M 89 5 + 1)) := by
  refine ctrI_of (by decide +kernel) (Nat.le_of_ble_eq_true rfl) ?_
  intro pP eE RR sS mI aG bB mE cD C
  refine k_lo (lo' := [(0, .ref (ga g 90)), (1, .int (nI s)), (2, .int a), (3, .int (nI t)), (4, .int b), (5, .int n)]) rfl ?_
  refine k_iload_n C 1 1 rfl rfl dX9_move_0 rfl ?_
  refine k_callSE C 4 (As := [.int (nI s)]) (st := []) mwX9_274 skX9_isSheet (qX9_isSheet l g M (nI s)) mlX9_isSheet (by decide) (by decide) rfl rfl (Nat.le_of_ble_eq_true rfl) dX9_move_1 rfl ?_
  refine k_if_eqB C 14 7 dX9_move_4 (by decide) rfl (fun c4 => ?_) (fun d4 => ?_)
  · skip
    exact (bz c4 (rg_lt (b := 4) hs (by decide))).elim
  · skip
    refine k_iload_n C 8 3 rfl rfl dX9_move_7 rfl ?_
    refine k_callSE C 11 (As := [.int (nI t)]) (st := []) mwX9_274 skX9_isSheet (qX9_isSheet l g M (nI t)) mlX9_isSheet (by decide) (by decide) rfl rfl (Nat.le_of_ble_eq_true rfl) dX9_move_8 rfl ?_
    refine k_if_neB C 21 14 dX9_move_11 (by decide) rfl (fun c11 => ?_) (fun d11 => ?_)
    · skip
      refine k_aload_n C 22 0 rfl rfl dX9_move_21 rfl ?_
      refine k_get C 25 flX9_68 90 (by decide) (v := .ref (ga g 80)) (ce_90 g _) rfl dX9_move_22 rfl ?_
      refine k_iload_n C 26 1 rfl rfl dX9_move_25 rfl ?_
      refine k_aald C 27 80 s 5 (by decide) (ce_80 g _) rfl (by decide) rfl (by omega) dX9_move_26 rfl ?_
      refine k_st (st' := [.ref (ga g (81 + s))]) rfl ?_
      refine k_astore C 29 [(6, .ref (ga g (81 + s))), (0, .ref (ga g 90)), (1, .int (nI s)), (2, .int a), (3, .int (nI t)), (4, .int b), (5, .int n)]  (by decide) rfl dX9_move_27 rfl ?_
      refine k_aload_n C 30 1 rfl rfl dX9_move_29 rfl ?_
      refine k_get C 33 flX9_68 90 (by decide) (v := .ref (ga g 80)) (ce_90 g _) rfl dX9_move_30 rfl ?_
      refine k_iload_n C 34 4 rfl rfl dX9_move_33 rfl ?_
      refine k_aald C 35 80 t 5 (by decide) (ce_80 g _) rfl (by decide) rfl (by omega) dX9_move_34 rfl ?_
      refine k_st (st' := [.ref (ga g (81 + t))]) rfl ?_
      refine k_astore C 37 [(7, .ref (ga g (81 + t))), (6, .ref (ga g (81 + s))), (0, .ref (ga g 90)), (1, .int (nI s)), (2, .int a), (3, .int (nI t)), (4, .int b), (5, .int n)]  (by decide) rfl dX9_move_35 rfl ?_
      refine k_aload C 39 1  rfl dX9_move_37 rfl ?_
      refine k_callVE C 42 (As := []) (st := []) (81 + s) (lt105_sh (by omega)) (ce_sh g _ (by omega)) rfl rfl mwX9_277 vlX5_isMissing (qX5_isMissing l g M (k := s) hs) mlX5_isMissing (by decide) (by decide) rfl rfl (Nat.le_of_ble_eq_true rfl) dX9_move_39 rfl ?_
      refine k_if_neB C 53 45 dX9_move_42 (by decide) rfl (fun c42 => ?_) (fun d42 => ?_)
      · skip
        exact absurd (of_decide_eq_true c42) h1
      · skip
        refine k_aload C 47 0  rfl dX9_move_45 rfl ?_
        refine k_callVE C 50 (As := []) (st := []) (81 + t) (lt105_sh (by omega)) (ce_sh g _ (by omega)) rfl rfl mwX9_277 vlX5_isMissing (qX5_isMissing l g M (k := t) ht) mlX5_isMissing (by decide) (by decide) rfl rfl (Nat.le_of_ble_eq_true rfl) dX9_move_47 rfl ?_
        refine k_if_eqB C 61 53 dX9_move_50 (by decide) rfl (fun c50 => ?_) (fun d50 => ?_)
        · skip
          refine k_aload C 63 1  rfl dX9_move_61 rfl ?_
          refine k_get C 66 flX9_310 (81 + s) (lt105_sh (by omega)) (v := .int ((M) (81 + s) 1)) (ce_sh g _ (by omega)) rfl dX9_move_63 rfl ?_
          refine k_aload C 68 0  rfl dX9_move_66 rfl ?_
          refine k_get C 71 flX9_310 (81 + t) (lt105_sh (by omega)) (v := .int ((M) (81 + t) 1)) (ce_sh g _ (by omega)) rfl dX9_move_68 rfl ?_
          refine k_icmp_eq C 81 74 dX9_move_71 (by decide) rfl (fun c71 => ?_) (fun d71 => ?_)
          · skip
            exact absurd c71 h3
          · skip
            refine k_aload_n C 75 2 rfl rfl dX9_move_74 rfl ?_
            refine k_ldc C 77 cwX9_157 dX9_move_75 rfl ?_
            refine k_callVE C 80 (As := [.int (-1000000005)]) (st := []) 90 (by decide) (ce_90 g _) rfl rfl mwX9_88 vlX9_refuse (qX9_refuse l g M (-1000000005) (k := 5) (by decide) (by decide) (by decide)) mlX9_refuse (by decide) (by decide) rfl rfl (Nat.le_of_ble_eq_true rfl) dX9_move_77 rfl ?_
            refine k_ret C rfl dX9_move_80 ?_
            exact ⟨rfl, rfl⟩
        · skip
          exact absurd (of_decide_eq_true d50) h2
    · skip
      exact (bz d11 (rg_lt (b := 4) ht (by decide))).elim
set_option maxHeartbeats 4000000 in
set_option maxRecDepth 20000 in
theorem qX9_move_r (l : Launch) (g : GT) (M : Mem) {s t : Nat} (hs : s < 4) (ht : t < 4) (a b n : Int32) (h1 : ¬ M (81 + s) 1 = 0) (h2 : ¬ M (81 + t) 1 = 0) (h3 : M (81 + s) 1 = M (81 + t) 1) (hr : (holC M s a n && holC M t b n) = false) : CtrE l g yX9_move cX9_move 8 (some .int) 1 [.ref (ga g 90), .int (nI s), .int a, .int (nI t), .int b, .int n] M (-1000000001) (mu M 89 1 (M 89 1 + 1)) := by
  refine ctrI_of (by decide +kernel) (Nat.le_of_ble_eq_true rfl) ?_
  intro pP eE RR sS mI aG bB mE cD C
  refine k_lo (lo' := [(0, .ref (ga g 90)), (1, .int (nI s)), (2, .int a), (3, .int (nI t)), (4, .int b), (5, .int n)]) rfl ?_
  refine k_iload_n C 1 1 rfl rfl dX9_move_0 rfl ?_
  refine k_callSE C 4 (As := [.int (nI s)]) (st := []) mwX9_274 skX9_isSheet (qX9_isSheet l g M (nI s)) mlX9_isSheet (by decide) (by decide) rfl rfl (Nat.le_of_ble_eq_true rfl) dX9_move_1 rfl ?_
  refine k_if_eqB C 14 7 dX9_move_4 (by decide) rfl (fun c4 => ?_) (fun d4 => ?_)
  · skip
    exact (bz c4 (rg_lt (b := 4) hs (by decide))).elim
  · skip
    refine k_iload_n C 8 3 rfl rfl dX9_move_7 rfl ?_
    refine k_callSE C 11 (As := [.int (nI t)]) (st := []) mwX9_274 skX9_isSheet (qX9_isSheet l g M (nI t)) mlX9_isSheet (by decide) (by decide) rfl rfl (Nat.le_of_ble_eq_true rfl) dX9_move_8 rfl ?_
    refine k_if_neB C 21 14 dX9_move_11 (by decide) rfl (fun c11 => ?_) (fun d11 => ?_)
    · skip
      refine k_aload_n C 22 0 rfl rfl dX9_move_21 rfl ?_
      refine k_get C 25 flX9_68 90 (by decide) (v := .ref (ga g 80)) (ce_90 g _) rfl dX9_move_22 rfl ?_
      refine k_iload_n C 26 1 rfl rfl dX9_move_25 rfl ?_
      refine k_aald C 27 80 s 5 (by decide) (ce_80 g _) rfl (by decide) rfl (by omega) dX9_move_26 rfl ?_
      refine k_st (st' := [.ref (ga g (81 + s))]) rfl ?_
      refine k_astore C 29 [(6, .ref (ga g (81 + s))), (0, .ref (ga g 90)), (1, .int (nI s)), (2, .int a), (3, .int (nI t)), (4, .int b), (5, .int n)]  (by decide) rfl dX9_move_27 rfl ?_
      refine k_aload_n C 30 1 rfl rfl dX9_move_29 rfl ?_
      refine k_get C 33 flX9_68 90 (by decide) (v := .ref (ga g 80)) (ce_90 g _) rfl dX9_move_30 rfl ?_
      refine k_iload_n C 34 4 rfl rfl dX9_move_33 rfl ?_
      refine k_aald C 35 80 t 5 (by decide) (ce_80 g _) rfl (by decide) rfl (by omega) dX9_move_34 rfl ?_
      refine k_st (st' := [.ref (ga g (81 + t))]) rfl ?_
      refine k_astore C 37 [(7, .ref (ga g (81 + t))), (6, .ref (ga g (81 + s))), (0, .ref (ga g 90)), (1, .int (nI s)), (2, .int a), (3, .int (nI t)), (4, .int b), (5, .int n)]  (by decide) rfl dX9_move_35 rfl ?_
      refine k_aload C 39 1  rfl dX9_move_37 rfl ?_
      refine k_callVE C 42 (As := []) (st := []) (81 + s) (lt105_sh (by omega)) (ce_sh g _ (by omega)) rfl rfl mwX9_277 vlX5_isMissing (qX5_isMissing l g M (k := s) hs) mlX5_isMissing (by decide) (by decide) rfl rfl (Nat.le_of_ble_eq_true rfl) dX9_move_39 rfl ?_
      refine k_if_neB C 53 45 dX9_move_42 (by decide) rfl (fun c42 => ?_) (fun d42 => ?_)
      · skip
        exact absurd (of_decide_eq_true c42) h1
      · skip
        refine k_aload C 47 0  rfl dX9_move_45 rfl ?_
        refine k_callVE C 50 (As := []) (st := []) (81 + t) (lt105_sh (by omega)) (ce_sh g _ (by omega)) rfl rfl mwX9_277 vlX5_isMissing (qX5_isMissing l g M (k := t) ht) mlX5_isMissing (by decide) (by decide) rfl rfl (Nat.le_of_ble_eq_true rfl) dX9_move_47 rfl ?_
        refine k_if_eqB C 61 53 dX9_move_50 (by decide) rfl (fun c50 => ?_) (fun d50 => ?_)
        · skip
          refine k_aload C 63 1  rfl dX9_move_61 rfl ?_
          refine k_get C 66 flX9_310 (81 + s) (lt105_sh (by omega)) (v := .int ((M) (81 + s) 1)) (ce_sh g _ (by omega)) rfl dX9_move_63 rfl ?_
          refine k_aload C 68 0  rfl dX9_move_66 rfl ?_
          refine k_get C 71 flX9_310 (81 + t) (lt105_sh (by omega)) (v := .int ((M) (81 + t) 1)) (ce_sh g _ (by omega)) rfl dX9_move_68 rfl ?_
          refine k_icmp_eq C 81 74 dX9_move_71 (by decide) rfl (fun c71 => ?_) (fun d71 => ?_)
          · skip
            refine k_aload C 83 1  rfl dX9_move_81 rfl ?_
            refine k_iload_n C 84 4 rfl rfl dX9_move_83 rfl ?_
            refine k_iload C 86 7  rfl dX9_move_84 rfl ?_
            refine k_callVE C 89 (As := [.int a, .int n]) (st := []) (81 + s) (lt105_sh (by omega)) (ce_sh g _ (by omega)) rfl rfl mwX9_313 vlX5_holds (qX5_holds l g M (k := s) hs a n) mlX5_holds (by decide) (by decide) rfl rfl (Nat.le_of_ble_eq_true rfl) dX9_move_86 rfl ?_
            refine k_if_eqB C 104 92 dX9_move_89 (by decide) rfl (fun c89 => ?_) (fun d89 => ?_)
            · skip
              refine k_aload_n C 105 2 rfl rfl dX9_move_104 rfl ?_
              refine k_ldc C 107 cwX9_87 dX9_move_105 rfl ?_
              refine k_callVE C 110 (As := [.int (-1000000001)]) (st := []) 90 (by decide) (ce_90 g _) rfl rfl mwX9_88 vlX9_refuse (qX9_refuse l g M (-1000000001) (k := 1) (by decide) (by decide) (by decide)) mlX9_refuse (by decide) (by decide) rfl rfl (Nat.le_of_ble_eq_true rfl) dX9_move_107 rfl ?_
              refine k_ret C rfl dX9_move_110 ?_
              exact ⟨rfl, rfl⟩
            · skip
              refine k_aload C 94 0  rfl dX9_move_92 rfl ?_
              refine k_iload C 96 6  rfl dX9_move_94 rfl ?_
              refine k_iload C 98 7  rfl dX9_move_96 rfl ?_
              refine k_callVE C 101 (As := [.int b, .int n]) (st := []) (81 + t) (lt105_sh (by omega)) (ce_sh g _ (by omega)) rfl rfl mwX9_313 vlX5_holds (qX5_holds l g M (k := t) ht b n) mlX5_holds (by decide) (by decide) rfl rfl (Nat.le_of_ble_eq_true rfl) dX9_move_98 rfl ?_
              refine k_if_neB C 111 104 dX9_move_101 (by decide) rfl (fun c101 => ?_) (fun d101 => ?_)
              · skip
                exact (bz hr (by rw [show holC M s a n = true from d89, show holC M t b n = true from c101]; rfl)).elim
              · skip
                refine k_aload_n C 105 2 rfl rfl dX9_move_104 rfl ?_
                refine k_ldc C 107 cwX9_87 dX9_move_105 rfl ?_
                refine k_callVE C 110 (As := [.int (-1000000001)]) (st := []) 90 (by decide) (ce_90 g _) rfl rfl mwX9_88 vlX9_refuse (qX9_refuse l g M (-1000000001) (k := 1) (by decide) (by decide) (by decide)) mlX9_refuse (by decide) (by decide) rfl rfl (Nat.le_of_ble_eq_true rfl) dX9_move_107 rfl ?_
                refine k_ret C rfl dX9_move_110 ?_
                exact ⟨rfl, rfl⟩
          · skip
            exact absurd h3 d71
        · skip
          exact absurd (of_decide_eq_true d50) h2
    · skip
      exact (bz d11 (rg_lt (b := 4) ht (by decide))).elim
set_option maxHeartbeats 4000000 in
set_option maxRecDepth 20000 in
theorem qX9_move_t (l : Launch) (g : GT) (M : Mem) {s t : Nat} (hs : s < 4) (ht : t < 4) {a b n : Nat} (h1 : ¬ M (81 + s) 1 = 0) (h2 : ¬ M (81 + t) 1 = 0) (h3 : M (81 + s) 1 = M (81 + t) 1) (hr : (holC M s (nI a) (nI n) && holC M t (nI b) (nI n)) = true) (han : a + n ≤ 24) (hbn : b + n ≤ 24) : CtrE l g yX9_move cX9_move 8 (some .int) 1 [.ref (ga g 90), .int (nI s), .int (nI a), .int (nI t), .int (nI b), .int (nI n)] M (nI n) (mrow M (85 + t) (va_cpy (M (85 + s)) (M (85 + t)) a b n)) := by
  refine ctrI_of (by decide +kernel) (Nat.le_of_ble_eq_true rfl) ?_
  intro pP eE RR sS mI aG bB mE cD C
  refine k_lo (lo' := [(0, .ref (ga g 90)), (1, .int (nI s)), (2, .int (nI a)), (3, .int (nI t)), (4, .int (nI b)), (5, .int (nI n))]) rfl ?_
  refine k_iload_n C 1 1 rfl rfl dX9_move_0 rfl ?_
  refine k_callSE C 4 (As := [.int (nI s)]) (st := []) mwX9_274 skX9_isSheet (qX9_isSheet l g M (nI s)) mlX9_isSheet (by decide) (by decide) rfl rfl (Nat.le_of_ble_eq_true rfl) dX9_move_1 rfl ?_
  refine k_if_eqB C 14 7 dX9_move_4 (by decide) rfl (fun c4 => ?_) (fun d4 => ?_)
  · skip
    exact (bz c4 (rg_lt (b := 4) hs (by decide))).elim
  · skip
    refine k_iload_n C 8 3 rfl rfl dX9_move_7 rfl ?_
    refine k_callSE C 11 (As := [.int (nI t)]) (st := []) mwX9_274 skX9_isSheet (qX9_isSheet l g M (nI t)) mlX9_isSheet (by decide) (by decide) rfl rfl (Nat.le_of_ble_eq_true rfl) dX9_move_8 rfl ?_
    refine k_if_neB C 21 14 dX9_move_11 (by decide) rfl (fun c11 => ?_) (fun d11 => ?_)
    · skip
      refine k_aload_n C 22 0 rfl rfl dX9_move_21 rfl ?_
      refine k_get C 25 flX9_68 90 (by decide) (v := .ref (ga g 80)) (ce_90 g _) rfl dX9_move_22 rfl ?_
      refine k_iload_n C 26 1 rfl rfl dX9_move_25 rfl ?_
      refine k_aald C 27 80 s 5 (by decide) (ce_80 g _) rfl (by decide) rfl (by omega) dX9_move_26 rfl ?_
      refine k_st (st' := [.ref (ga g (81 + s))]) rfl ?_
      refine k_astore C 29 [(6, .ref (ga g (81 + s))), (0, .ref (ga g 90)), (1, .int (nI s)), (2, .int (nI a)), (3, .int (nI t)), (4, .int (nI b)), (5, .int (nI n))]  (by decide) rfl dX9_move_27 rfl ?_
      refine k_aload_n C 30 1 rfl rfl dX9_move_29 rfl ?_
      refine k_get C 33 flX9_68 90 (by decide) (v := .ref (ga g 80)) (ce_90 g _) rfl dX9_move_30 rfl ?_
      refine k_iload_n C 34 4 rfl rfl dX9_move_33 rfl ?_
      refine k_aald C 35 80 t 5 (by decide) (ce_80 g _) rfl (by decide) rfl (by omega) dX9_move_34 rfl ?_
      refine k_st (st' := [.ref (ga g (81 + t))]) rfl ?_
      refine k_astore C 37 [(7, .ref (ga g (81 + t))), (6, .ref (ga g (81 + s))), (0, .ref (ga g 90)), (1, .int (nI s)), (2, .int (nI a)), (3, .int (nI t)), (4, .int (nI b)), (5, .int (nI n))]  (by decide) rfl dX9_move_35 rfl ?_
      refine k_aload C 39 1  rfl dX9_move_37 rfl ?_
      refine k_callVE C 42 (As := []) (st := []) (81 + s) (lt105_sh (by omega)) (ce_sh g _ (by omega)) rfl rfl mwX9_277 vlX5_isMissing (qX5_isMissing l g M (k := s) hs) mlX5_isMissing (by decide) (by decide) rfl rfl (Nat.le_of_ble_eq_true rfl) dX9_move_39 rfl ?_
      refine k_if_neB C 53 45 dX9_move_42 (by decide) rfl (fun c42 => ?_) (fun d42 => ?_)
      · skip
        exact absurd (of_decide_eq_true c42) h1
      · skip
        refine k_aload C 47 0  rfl dX9_move_45 rfl ?_
        refine k_callVE C 50 (As := []) (st := []) (81 + t) (lt105_sh (by omega)) (ce_sh g _ (by omega)) rfl rfl mwX9_277 vlX5_isMissing (qX5_isMissing l g M (k := t) ht) mlX5_isMissing (by decide) (by decide) rfl rfl (Nat.le_of_ble_eq_true rfl) dX9_move_47 rfl ?_
        refine k_if_eqB C 61 53 dX9_move_50 (by decide) rfl (fun c50 => ?_) (fun d50 => ?_)
        · skip
          refine k_aload C 63 1  rfl dX9_move_61 rfl ?_
          refine k_get C 66 flX9_310 (81 + s) (lt105_sh (by omega)) (v := .int ((M) (81 + s) 1)) (ce_sh g _ (by omega)) rfl dX9_move_63 rfl ?_
          refine k_aload C 68 0  rfl dX9_move_66 rfl ?_
          refine k_get C 71 flX9_310 (81 + t) (lt105_sh (by omega)) (v := .int ((M) (81 + t) 1)) (ce_sh g _ (by omega)) rfl dX9_move_68 rfl ?_
          refine k_icmp_eq C 81 74 dX9_move_71 (by decide) rfl (fun c71 => ?_) (fun d71 => ?_)
          · skip
            refine k_aload C 83 1  rfl dX9_move_81 rfl ?_
            refine k_iload_n C 84 4 rfl rfl dX9_move_83 rfl ?_
            refine k_iload C 86 7  rfl dX9_move_84 rfl ?_
            refine k_callVE C 89 (As := [.int (nI a), .int (nI n)]) (st := []) (81 + s) (lt105_sh (by omega)) (ce_sh g _ (by omega)) rfl rfl mwX9_313 vlX5_holds (qX5_holds l g M (k := s) hs (nI a) (nI n)) mlX5_holds (by decide) (by decide) rfl rfl (Nat.le_of_ble_eq_true rfl) dX9_move_86 rfl ?_
            refine k_if_eqB C 104 92 dX9_move_89 (by decide) rfl (fun c89 => ?_) (fun d89 => ?_)
            · skip
              exact (bz c89 (Bool.and_eq_true_iff.mp hr).1).elim
            · skip
              refine k_aload C 94 0  rfl dX9_move_92 rfl ?_
              refine k_iload C 96 6  rfl dX9_move_94 rfl ?_
              refine k_iload C 98 7  rfl dX9_move_96 rfl ?_
              refine k_callVE C 101 (As := [.int (nI b), .int (nI n)]) (st := []) (81 + t) (lt105_sh (by omega)) (ce_sh g _ (by omega)) rfl rfl mwX9_313 vlX5_holds (qX5_holds l g M (k := t) ht (nI b) (nI n)) mlX5_holds (by decide) (by decide) rfl rfl (Nat.le_of_ble_eq_true rfl) dX9_move_98 rfl ?_
              refine k_if_neB C 111 104 dX9_move_101 (by decide) rfl (fun c101 => ?_) (fun d101 => ?_)
              · skip
                refine k_aload C 113 1  rfl dX9_move_111 rfl ?_
                refine k_get C 116 flX9_316 (81 + s) (lt105_sh (by omega)) (v := .ref (ga g (85 + s))) (ce_sh g _ (by omega)) rfl dX9_move_113 rfl ?_
                refine k_iload_n C 117 4 rfl rfl dX9_move_116 rfl ?_
                refine k_aload C 119 0  rfl dX9_move_117 rfl ?_
                refine k_get C 122 flX9_316 (81 + t) (lt105_sh (by omega)) (v := .ref (ga g (85 + t))) (ce_sh g _ (by omega)) rfl dX9_move_119 rfl ?_
                refine k_iload C 124 6  rfl dX9_move_122 rfl ?_
                refine k_iload C 126 7  rfl dX9_move_124 rfl ?_
                refine k_copy C 129 (85 + s) (85 + t) a b n 0 mwX9_319 (lt105_sn (by omega)) (lt105_sn (by omega)) (ce_sn g (by omega)) (ce_sn g (by omega)) rfl rfl rfl rfl rfl (by omega) (by omega) (by decide) (by decide) (fun _ _ => rfl) (Nat.le_of_ble_eq_true rfl) dX9_move_126 rfl ?_
                refine k_iload C 131 7  rfl dX9_move_129 rfl ?_
                refine k_ret C rfl dX9_move_131 ?_
                exact ⟨rfl, rfl⟩
              · skip
                exact (bz d101 (Bool.and_eq_true_iff.mp hr).2).elim
          · skip
            exact absurd h3 d71
        · skip
          exact absurd (of_decide_eq_true d50) h2
    · skip
      exact (bz d11 (rg_lt (b := 4) ht (by decide))).elim
set_option maxHeartbeats 4000000 in
set_option maxRecDepth 20000 in
theorem qX9_judge_f (l : Launch) (g : GT) (M : Mem) (s : Int32) (hf : (decide (0 ≤ s) && decide (s < 4)) = false) : CtrE l g yX9_judge cX9_judge 5 (some .int) 5 [.ref (ga g 90), .int s] M (-1000000001) (mu M 89 1 (M 89 1 + 1)) := by
  refine ctrI_of (by decide +kernel) (Nat.le_of_ble_eq_true rfl) ?_
  intro pP eE RR sS mI aG bB mE cD C
  refine k_lo (lo' := [(0, .ref (ga g 90)), (1, .int s)]) rfl ?_
  refine k_iload_n C 1 1 rfl rfl dX9_judge_0 rfl ?_
  refine k_callSE C 4 (As := [.int s]) (st := []) mwX9_274 skX9_isSheet (qX9_isSheet l g M s) mlX9_isSheet (by decide) (by decide) rfl rfl (Nat.le_of_ble_eq_true rfl) dX9_judge_1 rfl ?_
  refine k_if_neB C 14 7 dX9_judge_4 (by decide) rfl (fun c4 => ?_) (fun d4 => ?_)
  · skip
    exact (bz hf c4).elim
  · skip
    refine k_aload_n C 8 0 rfl rfl dX9_judge_7 rfl ?_
    refine k_ldc C 10 cwX9_87 dX9_judge_8 rfl ?_
    refine k_callVE C 13 (As := [.int (-1000000001)]) (st := []) 90 (by decide) (ce_90 g _) rfl rfl mwX9_88 vlX9_refuse (qX9_refuse l g M (-1000000001) (k := 1) (by decide) (by decide) (by decide)) mlX9_refuse (by decide) (by decide) rfl rfl (Nat.le_of_ble_eq_true rfl) dX9_judge_10 rfl ?_
    refine k_ret C rfl dX9_judge_13 ?_
    exact ⟨rfl, rfl⟩
set_option maxHeartbeats 4000000 in
set_option maxRecDepth 20000 in
theorem qX9_judge_0 (l : Launch) (g : GT) (M : Mem) {s : Nat} (hs : s < 4) (h : M (81 + s) 1 = 0) : CtrE l g yX9_judge cX9_judge 5 (some .int) 5 [.ref (ga g 90), .int (nI s)] M (-1000000002) (mu M 89 2 (M 89 2 + 1)) := by
  refine ctrI_of (by decide +kernel) (Nat.le_of_ble_eq_true rfl) ?_
  intro pP eE RR sS mI aG bB mE cD C
  refine k_lo (lo' := [(0, .ref (ga g 90)), (1, .int (nI s))]) rfl ?_
  refine k_iload_n C 1 1 rfl rfl dX9_judge_0 rfl ?_
  refine k_callSE C 4 (As := [.int (nI s)]) (st := []) mwX9_274 skX9_isSheet (qX9_isSheet l g M (nI s)) mlX9_isSheet (by decide) (by decide) rfl rfl (Nat.le_of_ble_eq_true rfl) dX9_judge_1 rfl ?_
  refine k_if_neB C 14 7 dX9_judge_4 (by decide) rfl (fun c4 => ?_) (fun d4 => ?_)
  · skip
    refine k_aload_n C 15 0 rfl rfl dX9_judge_14 rfl ?_
    refine k_get C 18 flX9_68 90 (by decide) (v := .ref (ga g 80)) (ce_90 g _) rfl dX9_judge_15 rfl ?_
    refine k_iload_n C 19 1 rfl rfl dX9_judge_18 rfl ?_
    refine k_aald C 20 80 s 5 (by decide) (ce_80 g _) rfl (by decide) rfl (by omega) dX9_judge_19 rfl ?_
    refine k_st (st' := [.ref (ga g (81 + s))]) rfl ?_
    refine k_astore_n C 21 [(2, .ref (ga g (81 + s))), (0, .ref (ga g 90)), (1, .int (nI s))] rfl (by decide) rfl dX9_judge_20 rfl ?_
    refine k_aload_n C 22 0 rfl rfl dX9_judge_21 rfl ?_
    refine k_callVE C 25 (As := []) (st := []) (81 + s) (lt105_sh (by omega)) (ce_sh g _ (by omega)) rfl rfl mwX9_277 vlX5_isMissing (qX5_isMissing l g M (by omega)) mlX5_isMissing (by decide) (by decide) rfl rfl (Nat.le_of_ble_eq_true rfl) dX9_judge_22 rfl ?_
    refine k_if_eqB C 36 28 dX9_judge_25 (by decide) rfl (fun c25 => ?_) (fun d25 => ?_)
    · skip
      exact absurd h (of_decide_eq_false c25)
    · skip
      refine k_aload_n C 29 1 rfl rfl dX9_judge_28 rfl ?_
      refine k_ldcw C 32 cwX9_280 dX9_judge_29 rfl ?_
      refine k_callVE C 35 (As := [.int (-1000000002)]) (st := []) 90 (by decide) (ce_90 g _) rfl rfl mwX9_88 vlX9_refuse (qX9_refuse l g M (-1000000002) (k := 2) (by decide) (by decide) (by decide)) mlX9_refuse (by decide) (by decide) rfl rfl (Nat.le_of_ble_eq_true rfl) dX9_judge_32 rfl ?_
      refine k_ret C rfl dX9_judge_35 ?_
      exact ⟨rfl, rfl⟩
  · skip
    exact (bz d4 (rg_lt (b := 4) hs (by decide))).elim
set_option maxHeartbeats 4000000 in
set_option maxRecDepth 20000 in
theorem qX9_judge_t (l : Launch) (g : GT) (M : Mem) {n : Nat} (hn : M 37 1 = nI n) (h12 : n ≤ 12) {s : Nat} (hs : s < 4) (h : ¬ M (81 + s) 1 = 0) {z : Nat} (hz : M (81 + s) 2 = nI z) (h24 : z ≤ 24) {n1 : Nat} (hL : lawOk M 1 n1) : CtrI l g yX9_judge cX9_judge 5 (some .int) 5 [.ref (ga g 90), .int (nI s)] M (fun r M1 => r = nI (fstK (jdP (M (85 + s)) (fF M 0) n1 (M 53)) (min z n) 0) ∧ Sc lawS M M1) := by
  refine ctrI_of (by decide +kernel) (Nat.le_of_ble_eq_true rfl) ?_
  intro pP eE RR sS mI aG bB mE cD C
  refine k_lo (lo' := [(0, .ref (ga g 90)), (1, .int (nI s))]) rfl ?_
  refine k_iload_n C 1 1 rfl rfl dX9_judge_0 rfl ?_
  refine k_callSE C 4 (As := [.int (nI s)]) (st := []) mwX9_274 skX9_isSheet (qX9_isSheet l g M (nI s)) mlX9_isSheet (by decide) (by decide) rfl rfl (Nat.le_of_ble_eq_true rfl) dX9_judge_1 rfl ?_
  refine k_if_neB C 14 7 dX9_judge_4 (by decide) rfl (fun c4 => ?_) (fun d4 => ?_)
  · skip
    refine k_aload_n C 15 0 rfl rfl dX9_judge_14 rfl ?_
    refine k_get C 18 flX9_68 90 (by decide) (v := .ref (ga g 80)) (ce_90 g _) rfl dX9_judge_15 rfl ?_
    refine k_iload_n C 19 1 rfl rfl dX9_judge_18 rfl ?_
    refine k_aald C 20 80 s 5 (by decide) (ce_80 g _) rfl (by decide) rfl (by omega) dX9_judge_19 rfl ?_
    refine k_st (st' := [.ref (ga g (81 + s))]) rfl ?_
    refine k_astore_n C 21 [(2, .ref (ga g (81 + s))), (0, .ref (ga g 90)), (1, .int (nI s))] rfl (by decide) rfl dX9_judge_20 rfl ?_
    refine k_aload_n C 22 0 rfl rfl dX9_judge_21 rfl ?_
    refine k_callVE C 25 (As := []) (st := []) (81 + s) (lt105_sh (by omega)) (ce_sh g _ (by omega)) rfl rfl mwX9_277 vlX5_isMissing (qX5_isMissing l g M (by omega)) mlX5_isMissing (by decide) (by decide) rfl rfl (Nat.le_of_ble_eq_true rfl) dX9_judge_22 rfl ?_
    refine k_if_eqB C 36 28 dX9_judge_25 (by decide) rfl (fun c25 => ?_) (fun d25 => ?_)
    · skip
      refine k_aload_n C 37 0 rfl rfl dX9_judge_36 rfl ?_
      refine k_get C 40 flX9_306 (81 + s) (lt105_sh (by omega)) (v := .int ((M) (81 + s) 2)) (ce_sh g _ (by omega)) rfl dX9_judge_37 rfl ?_
      refine k_teq (y := nI z) hz ?_
      refine k_aload_n C 41 1 rfl rfl dX9_judge_40 rfl ?_
      refine k_get C 44 flX9_12 90 (by decide) (v := .ref (ga g 43)) (ce_90 g _) rfl dX9_judge_41 rfl ?_
      refine k_get C 47 flX9_92 43 (by decide) (v := .ref (ga g 37)) (ce_wld g _ (show 0 < 2 by decide)) rfl dX9_judge_44 rfl ?_
      refine k_get C 50 flX9_95 37 (by decide) (v := .int ((M) 37 1)) (ce_fld g _ (show 0 < 3 by decide)) rfl dX9_judge_47 rfl ?_
      refine k_teq (y := nI n) hn ?_
      refine k_mmin C 53 mwX9_325 (Nat.le_of_ble_eq_true rfl) dX9_judge_50 rfl ?_
      refine k_teq (nI_min (a := z) (b := n) (by omega) (by omega)) ?_
      refine k_istore_n C 54 [(3, .int (nI (min z n))), (2, .ref (ga g (81 + s))), (0, .ref (ga g 90)), (1, .int (nI s))] rfl (by decide) rfl dX9_judge_53 rfl ?_
      refine k_iconst C 55 (v := 0) (by decide) dX9_judge_54 rfl ?_
      refine k_istore C 57 [(4, .int 0), (3, .int (nI (min z n))), (2, .ref (ga g (81 + s))), (0, .ref (ga g 90)), (1, .int (nI s))]  (by decide) rfl dX9_judge_55 rfl ?_
      refine k_sub [(0, .ref (ga g 90)), (2, .ref (ga g (81 + s))), (3, .int (nI (min z n))), (4, .int 0)] [3, 2, 1, 0] rfl ?_
      refine k_all (M' := M) (lo' := [(0, .ref (ga g 90)), (2, .ref (ga g (81 + s))), (3, .int (nI (min z n))), (4, .int (nI 0))]) (st' := []) (by rfl) (by rfl) rfl ?_
      refine k_loop (σ := Nat × Mem) (fun (v : Nat × Mem) => match v with | (kk, M1) => (kk ≤ min z n) ∧ (Sc lawS M M1) ∧ (fstK (jdP (M (85 + s)) (fF M 0) n1 (M 53)) (min z n) 0 = fstK (jdP (M (85 + s)) (fF M 0) n1 (M 53)) (min z n - kk) kk)) (fun (v : Nat × Mem) => match v with | (kk, M1) => min z n - kk) (fun (v : Nat × Mem) => match v with | (kk, M1) => M1) (fun (v : Nat × Mem) => match v with | (kk, M1) => [(0, .ref (ga g 90)), (2, .ref (ga g (81 + s))), (3, .int (nI (min z n))), (4, .int (nI kk))]) (0, M) (show (0 ≤ min z n) ∧ (Sc lawS M M) ∧ (fstK (jdP (M (85 + s)) (fF M 0) n1 (M 53)) (min z n) 0 = fstK (jdP (M (85 + s)) (fF M 0) n1 (M 53)) (min z n - 0) 0) from by exact ⟨Nat.zero_le _, fun _ _ _ => rfl, rfl⟩) ?_
      rintro ⟨kk, M1⟩ hI ih
      have hI : (kk ≤ min z n) ∧ (Sc lawS M M1) ∧ (fstK (jdP (M (85 + s)) (fF M 0) n1 (M 53)) (min z n) 0 = fstK (jdP (M (85 + s)) (fF M 0) n1 (M 53)) (min z n - kk) kk) := hI
      obtain ⟨hk, hA, he⟩ := hI
      show KW pP l eE RR sS mI aG bB mE cD g 5 _ (M1) 57 [(0, .ref (ga g 90)), (2, .ref (ga g (81 + s))), (3, .int (nI (min z n))), (4, .int (nI kk))] []
      refine k_iload C 59 3  rfl dX9_judge_57 rfl ?_
      refine k_iload_n C 60 2 rfl rfl dX9_judge_59 rfl ?_
      refine k_icmp_ge C 99 63 dX9_judge_60 (by decide) rfl (fun c60 => ?_) (fun d60 => ?_)
      · skip
        have c60 := (nI_leI (by omega) (by omega)).mp (show nI (min z n) ≤ nI kk from c60)
        refine k_iload C 101 3  rfl dX9_judge_99 rfl ?_
        refine k_ret C rfl dX9_judge_101 ?_
        exact ⟨by rw [he, fstK_end (by omega)], hA⟩
      · skip
        have d60 := mt (nI_leI (by omega) (by omega)).mpr (show ¬ (nI (min z n) ≤ nI kk) from d60)
        refine k_aload_n C 64 1 rfl rfl dX9_judge_63 rfl ?_
        refine k_get C 67 flX9_316 (81 + s) (lt105_sh hs) (v := .ref (ga g (85 + s))) (ce_sh g _ hs) rfl dX9_judge_64 rfl ?_
        refine k_iload C 69 3  rfl dX9_judge_67 rfl ?_
        refine k_iald C 70 (85 + s) kk (lt105_sn hs) (ce_sn g hs) (by decide) rfl (by omega) dX9_judge_69 rfl ?_
        refine k_teq (y := M (85 + s) kk) (hA (85 + s) kk (by unfold lawS; omega)) ?_
        refine k_aload_n C 71 0 rfl rfl dX9_judge_70 rfl ?_
        refine k_get C 74 flX9_12 90 (by decide) (v := .ref (ga g 43)) (ce_90 g _) rfl dX9_judge_71 rfl ?_
        refine k_aload_n C 75 0 rfl rfl dX9_judge_74 rfl ?_
        refine k_get C 78 flX9_12 90 (by decide) (v := .ref (ga g 43)) (ce_90 g _) rfl dX9_judge_75 rfl ?_
        refine k_get C 81 flX9_92 43 (by decide) (v := .ref (ga g 37)) (ce_wld g _ (show 0 < 2 by decide)) rfl dX9_judge_78 rfl ?_
        refine k_get C 84 flX9_107 37 (by decide) (v := .ref (ga g 40)) (ce_fld g _ (show 0 < 3 by decide)) rfl dX9_judge_81 rfl ?_
        refine k_iload C 86 3  rfl dX9_judge_84 rfl ?_
        refine k_aald C 87 40 kk 3 (by decide) (ce_fa g _ (show 0 < 3 by decide)) rfl (by decide) rfl (by omega) dX9_judge_86 rfl ?_
        refine k_st (st' := [.ref (ga g kk), .ref (ga g 43), .int (M (85 + s) kk)]) (by simp only [Nat.mul_zero, Nat.zero_add]) ?_
        refine k_callVI C 90 (As := [.ref (ga g kk)]) (st := [.int (M (85 + s) kk)]) 43 (by decide) (ce_wld g _ (show 0 < 2 by decide)) rfl rfl mwX9_141 vlX8_senseOf (qX8_senseOf l g M1 (n := n1) (lawOk_of hL hA (by decide)) (k := kk) (by omega)) mlX8_senseOf (by decide) (by decide) rfl rfl (Nat.le_of_ble_eq_true rfl) dX9_judge_87 rfl (fun r2 M2 h2 => ?_)
        obtain ⟨hr2, hs2⟩ := h2
        rw [show M1 53 = M 53 from funext fun k => hA 53 k (by unfold lawS; omega), show M1 kk = M kk from funext fun k => hA kk k (by unfold lawS; omega)] at hr2
        have hfk : fF M 0 kk = M kk := congrArg M (by omega)
        refine k_icmp_ne C 99 93 dX9_judge_90 (by decide) rfl (fun c90 => ?_) (fun d90 => ?_)
        · skip
          refine k_iload C 101 3  rfl dX9_judge_99 rfl ?_
          refine k_ret C rfl dX9_judge_101 ?_
          exact ⟨by rw [he, fstK_hit (by omega) (decide_eq_false (fun q => c90 (q.trans (by rw [hr2, hfk]))))], Sc_tr hA hs2⟩
        · skip
          refine k_iinc C 96 (nI (kk + 1)) 3 [(4, .int (nI (kk + 1))), (0, .ref (ga g 90)), (2, .ref (ga g (81 + s))), (3, .int (nI (min z n)))] rfl (iinc_p kk) (by decide) rfl dX9_judge_93 rfl ?_
          refine k_goto C 57 dX9_judge_96 (by decide) ?_
          refine k_sub [(0, .ref (ga g 90)), (2, .ref (ga g (81 + s))), (3, .int (nI (min z n))), (4, .int (nI (kk + 1)))] [1, 2, 3, 0] rfl ?_
          refine k_all (M' := M2) (lo' := [(0, .ref (ga g 90)), (2, .ref (ga g (81 + s))), (3, .int (nI (min z n))), (4, .int (nI (kk + 1)))]) (st' := []) (by rfl) (by rfl) rfl ?_
          exact ih (kk + 1, M2) (show ((kk + 1) ≤ min z n) ∧ (Sc lawS M M2) ∧ (fstK (jdP (M (85 + s)) (fF M 0) n1 (M 53)) (min z n) 0 = fstK (jdP (M (85 + s)) (fF M 0) n1 (M 53)) (min z n - (kk + 1)) (kk + 1)) from by exact ⟨by omega, Sc_tr hA hs2, by rw [he, fstK_go (by omega) (decide_eq_true (by rw [hfk]; exact d90.trans hr2))]⟩) (by show min z n - (kk + 1) < min z n - kk; omega)
    · skip
      exact absurd (of_decide_eq_true d25) h
  · skip
    exact (bz d4 (rg_lt (b := 4) hs (by decide))).elim
set_option maxHeartbeats 4000000 in
set_option maxRecDepth 20000 in
theorem qX9_check (l : Launch) (g : GT) (M : Mem) {n : Nat} (hn : M 37 1 = nI n) (h12 : n ≤ 12) {u : Nat} (hu : M 43 5 = nI u) (h24 : u ≤ 24) : CtrE l g yX9_check cX9_check 3 (some .int) 0 [.ref (ga g 90)] M (chk u (fstK (wtP (M 65) (fF M 0) n) u 0)) (mu M 43 5 0) := by
  refine ctrI_of (by decide +kernel) (Nat.le_of_ble_eq_true rfl) ?_
  intro pP eE RR sS mI aG bB mE cD C
  refine k_lo (lo' := [(0, .ref (ga g 90))]) rfl ?_
  refine k_aload_n C 1 0 rfl rfl dX9_check_0 rfl ?_
  refine k_get C 4 flX9_12 90 (by decide) (v := .ref (ga g 43)) (ce_90 g _) rfl dX9_check_1 rfl ?_
  refine k_get C 7 flX9_337 43 (by decide) (v := .int ((M) 43 5)) (ce_wld g _ (show 0 < 2 by decide)) rfl dX9_check_4 rfl ?_
  refine k_teq (y := nI u) hu ?_
  refine k_istore_n C 8 [(1, .int (nI u)), (0, .ref (ga g 90))] rfl (by decide) rfl dX9_check_7 rfl ?_
  refine k_aload_n C 9 1 rfl rfl dX9_check_8 rfl ?_
  refine k_get C 12 flX9_12 90 (by decide) (v := .ref (ga g 43)) (ce_90 g _) rfl dX9_check_9 rfl ?_
  refine k_iconst C 13 (v := 0) (by decide) dX9_check_12 rfl ?_
  refine k_put C 16 flX9_337 plX8 43 (by decide) (ce_wld g _ (show 0 < 2 by decide)) (ce_wld g _ (show 0 < 2 by decide)) (Nat.le_of_ble_eq_true rfl) rfl rfl rfl dX9_check_13 rfl ?_
  refine k_iconst C 17 (v := 0) (by decide) dX9_check_16 rfl ?_
  refine k_istore_n C 18 [(2, .int 0), (1, .int (nI u)), (0, .ref (ga g 90))] rfl (by decide) rfl dX9_check_17 rfl ?_
  refine k_sub [(0, .ref (ga g 90)), (1, .int (nI u)), (2, .int 0)] [2, 1, 0] rfl ?_
  refine k_all (M' := mu M 43 5 0) (lo' := [(0, .ref (ga g 90)), (1, .int (nI u)), (2, .int (nI 0))]) (st' := []) (by rfl) (by rfl) rfl ?_
  refine k_loop (σ := Nat) (fun (k : Nat) => (k ≤ u) ∧ (fstK (wtP (M 65) (fF M 0) n) u 0 = fstK (wtP (M 65) (fF M 0) n) (u - k) k)) (fun (k : Nat) => u - k) (fun (k : Nat) => mu M 43 5 0) (fun (k : Nat) => [(0, .ref (ga g 90)), (1, .int (nI u)), (2, .int (nI k))]) 0 (show (0 ≤ u) ∧ (fstK (wtP (M 65) (fF M 0) n) u 0 = fstK (wtP (M 65) (fF M 0) n) (u - 0) 0) from by exact ⟨Nat.zero_le _, rfl⟩) ?_
  rintro k hI ih
  have hI : (k ≤ u) ∧ (fstK (wtP (M 65) (fF M 0) n) u 0 = fstK (wtP (M 65) (fF M 0) n) (u - k) k) := hI
  obtain ⟨hk, he⟩ := hI
  show KW pP l eE RR sS mI aG bB mE cD g 3 _ (mu M 43 5 0) 18 [(0, .ref (ga g 90)), (1, .int (nI u)), (2, .int (nI k))] []
  refine k_iload_n C 19 2 rfl rfl dX9_check_18 rfl ?_
  refine k_iload_n C 20 1 rfl rfl dX9_check_19 rfl ?_
  refine k_icmp_ge C 74 23 dX9_check_20 (by decide) rfl (fun c20 => ?_) (fun d20 => ?_)
  · skip
    have c20 := (nI_leI (by omega) (by omega)).mp (show nI u ≤ nI k from c20)
    refine k_iconst C 75 (v := 0) (by decide) dX9_check_74 rfl ?_
    refine k_ret C rfl dX9_check_75 ?_
    exact ⟨by rw [he, fstK_end (by omega)]; exact (if_neg (by omega)).symm, rfl⟩
  · skip
    have d20 := mt (nI_leI (by omega) (by omega)).mpr (show ¬ (nI u ≤ nI k) from d20)
    refine k_iload_n C 24 2 rfl rfl dX9_check_23 rfl ?_
    refine k_aload_n C 25 0 rfl rfl dX9_check_24 rfl ?_
    refine k_get C 28 flX9_12 90 (by decide) (v := .ref (ga g 43)) (ce_90 g _) rfl dX9_check_25 rfl ?_
    refine k_get C 31 flX9_92 43 (by decide) (v := .ref (ga g 37)) (ce_wld g _ (show 0 < 2 by decide)) rfl dX9_check_28 rfl ?_
    refine k_get C 34 flX9_95 37 (by decide) (v := .int ((mu M 43 5 0) 37 1)) (ce_fld g _ (show 0 < 3 by decide)) rfl dX9_check_31 rfl ?_
    refine k_teq (y := nI n) (by rw [mu_n _ _ _ (by decide)]; exact hn) ?_
    refine k_icmp_ge C 64 37 dX9_check_34 (by decide) rfl (fun c34 => ?_) (fun d34 => ?_)
    · skip
      have c34 := (nI_leI (by omega) (by omega)).mp (show nI n ≤ nI k from c34)
      refine k_iconst C 65 (v := 1) (by decide) dX9_check_64 rfl ?_
      refine k_iload_n C 66 2 rfl rfl dX9_check_65 rfl ?_
      refine k_iadd C 67 dX9_check_66 rfl ?_
      refine k_teq (nI_add 1 k) ?_
      refine k_ret C rfl dX9_check_67 ?_
      have hP : wtP (M 65) (fF M 0) n k = false := by unfold wtP; rw [decide_eq_false (show ¬ k < n by omega)]; rfl
      exact ⟨by rw [he, fstK_hit (by omega) hP]; exact (if_pos (by omega)).symm, rfl⟩
    · skip
      have d34 := mt (nI_leI (by omega) (by omega)).mpr (show ¬ (nI n ≤ nI k) from d34)
      refine k_aload_n C 38 0 rfl rfl dX9_check_37 rfl ?_
      refine k_get C 41 flX9_12 90 (by decide) (v := .ref (ga g 43)) (ce_90 g _) rfl dX9_check_38 rfl ?_
      refine k_get C 44 flX9_340 43 (by decide) (v := .ref (ga g 65)) (ce_wld g _ (show 0 < 2 by decide)) rfl dX9_check_41 rfl ?_
      refine k_iload_n C 45 2 rfl rfl dX9_check_44 rfl ?_
      refine k_iald C 46 65 k (by decide) (ce_wt g (show 0 < 2 by decide)) (by decide) rfl (by omega) dX9_check_45 rfl ?_
      refine k_teq (y := M 65 k) (by rw [mu_n _ _ _ (by decide)]) ?_
      refine k_aload_n C 47 0 rfl rfl dX9_check_46 rfl ?_
      refine k_get C 50 flX9_12 90 (by decide) (v := .ref (ga g 43)) (ce_90 g _) rfl dX9_check_47 rfl ?_
      refine k_get C 53 flX9_92 43 (by decide) (v := .ref (ga g 37)) (ce_wld g _ (show 0 < 2 by decide)) rfl dX9_check_50 rfl ?_
      refine k_get C 56 flX9_107 37 (by decide) (v := .ref (ga g 40)) (ce_fld g _ (show 0 < 3 by decide)) rfl dX9_check_53 rfl ?_
      refine k_iload_n C 57 2 rfl rfl dX9_check_56 rfl ?_
      refine k_aald C 58 40 k 3 (by decide) (ce_fa g _ (show 0 < 3 by decide)) rfl (by decide) rfl (by omega) dX9_check_57 rfl ?_
      refine k_st (st' := [.ref (ga g k), .int (M 65 k)]) (by simp only [Nat.mul_zero, Nat.zero_add]) ?_
      refine k_get C 61 flX9_126 k (lt105_fu (by omega)) (v := .int ((mu M 43 5 0) k 5)) (ce_fu g _ (by omega)) rfl dX9_check_58 rfl ?_
      refine k_teq (y := M k 5) (by rw [mu_n _ _ _ (by omega)]) ?_
      refine k_icmp_eq C 68 64 dX9_check_61 (by decide) rfl (fun c61 => ?_) (fun d61 => ?_)
      · skip
        refine k_iinc C 71 (nI (k + 1)) 2 [(2, .int (nI (k + 1))), (0, .ref (ga g 90)), (1, .int (nI u))] rfl (iinc_p k) (by decide) rfl dX9_check_68 rfl ?_
        refine k_goto C 18 dX9_check_71 (by decide) ?_
        refine k_sub [(0, .ref (ga g 90)), (1, .int (nI u)), (2, .int (nI (k + 1)))] [1, 2, 0] rfl ?_
        refine k_all (M' := mu M 43 5 0) (lo' := [(0, .ref (ga g 90)), (1, .int (nI u)), (2, .int (nI (k + 1)))]) (st' := []) (by rfl) (by rfl) rfl ?_
        exact ih (k + 1) (show ((k + 1) ≤ u) ∧ (fstK (wtP (M 65) (fF M 0) n) u 0 = fstK (wtP (M 65) (fF M 0) n) (u - (k + 1)) (k + 1)) from by exact ⟨by omega, by rw [he, fstK_go (by omega) (by unfold wtP; rw [decide_eq_true (show k < n by omega), decide_eq_true (show M 65 k = fF M 0 k 5 from by rw [show fF M 0 k = M k from congrArg M (by omega)]; exact c61)]; rfl)]⟩) (by show u - (k + 1) < _; omega)
      · skip
        refine k_iconst C 65 (v := 1) (by decide) dX9_check_64 rfl ?_
        refine k_iload_n C 66 2 rfl rfl dX9_check_65 rfl ?_
        refine k_iadd C 67 dX9_check_66 rfl ?_
        refine k_teq (nI_add 1 k) ?_
        refine k_ret C rfl dX9_check_67 ?_
        have hP : wtP (M 65) (fF M 0) n k = false := by
          unfold wtP; rw [decide_eq_false (show ¬ M 65 k = fF M 0 k 5 from by rw [show fF M 0 k = M k from congrArg M (by omega)]; exact d61), Bool.and_false]
        exact ⟨by rw [he, fstK_hit (by omega) hP]; exact (if_pos (by omega)).symm, rfl⟩
