-- the class: World, copies, years by draws
def cpF (M M1 : Mem) (fi fo n : Nat) : Prop := (∀ i, i < n → ∀ j, j < 7 → M1 (12 * fi + i) j = M (12 * fo + i) j) ∧ (∀ q, 1 ≤ q → q ≤ 4 → M1 (37 + fi) q = M (37 + fo) q) ∧ ∀ a, ¬ (12 * fi ≤ a ∧ a < 12 * fi + 12) → a ≠ 37 + fi → M1 a = M a
/-- world w is now as world w2 -/
def cpW (M M1 : Mem) (w w2 n n0 n1 t u : Nat) : Prop :=
  (∀ i, i < n → ∀ j, j < 7 → M1 (12 * w + i) j = M (12 * w2 + i) j) ∧ (∀ q, 1 ≤ q → q ≤ 4 → M1 (37 + w) q = M (37 + w2) q) ∧
  (M1 (47 + 2 * w) 1 = nI n0 ∧ ∀ k, k < n0 → M1 (52 + 2 * w) k = M (52 + 2 * w2) k) ∧ (M1 (48 + 2 * w) 1 = nI n1 ∧ ∀ k, k < n1 → M1 (53 + 2 * w) k = M (53 + 2 * w2) k) ∧
  (M1 (43 + w) 3 = nI t ∧ ∀ k, k < t → M1 (62 + w) k = M (62 + w2) k) ∧ (M1 (43 + w) 5 = nI u ∧ ∀ k, k < u → M1 (65 + w) k = M (65 + w2) k) ∧
  ∀ a, ¬ (12 * w ≤ a ∧ a < 12 * w + 12) → a ≠ 37 + w → a ≠ 47 + 2 * w → a ≠ 48 + 2 * w → a ≠ 52 + 2 * w → a ≠ 53 + 2 * w → a ≠ 43 + w → a ≠ 62 + w → a ≠ 65 + w → M1 a = M a
theorem va_cpy_lo {f g : Nat → Int32} {n j : Nat} (h : j < n) : va_cpy f g 0 0 n j = f j := sb_cpy0 h

theorem cpW_of_1 {M M1 : Mem} {n n0 n1 t u : Nat} (hn : M 37 1 = nI n) (h12 : n ≤ 12) (h0 : M 47 1 = nI n0) (h600 : n0 ≤ 60) (h1 : M 48 1 = nI n1) (h601 : n1 ≤ 60) (ht : M 43 3 = nI t) (h60 : t ≤ 60) (hu : M 43 5 = nI u) (h24 : u ≤ 24) (hF : cpF M M1 1 0 n) : cpW M (mu (mrow (mu (mrow (mu (mrow (mu (mrow M1 54 (va_cpy (M1 52) (M1 54) 0 0 n0)) 49 1 (nI n0)) 55 (va_cpy ((mu (mrow M1 54 (va_cpy (M1 52) (M1 54) 0 0 n0)) 49 1 (nI n0)) 53) ((mu (mrow M1 54 (va_cpy (M1 52) (M1 54) 0 0 n0)) 49 1 (nI n0)) 55) 0 0 n1)) 50 1 (nI n1)) 63 (va_cpy ((mu (mrow (mu (mrow M1 54 (va_cpy (M1 52) (M1 54) 0 0 n0)) 49 1 (nI n0)) 55 (va_cpy ((mu (mrow M1 54 (va_cpy (M1 52) (M1 54) 0 0 n0)) 49 1 (nI n0)) 53) ((mu (mrow M1 54 (va_cpy (M1 52) (M1 54) 0 0 n0)) 49 1 (nI n0)) 55) 0 0 n1)) 50 1 (nI n1)) 62) ((mu (mrow (mu (mrow M1 54 (va_cpy (M1 52) (M1 54) 0 0 n0)) 49 1 (nI n0)) 55 (va_cpy ((mu (mrow M1 54 (va_cpy (M1 52) (M1 54) 0 0 n0)) 49 1 (nI n0)) 53) ((mu (mrow M1 54 (va_cpy (M1 52) (M1 54) 0 0 n0)) 49 1 (nI n0)) 55) 0 0 n1)) 50 1 (nI n1)) 63) 0 0 t)) 44 3 (nI t)) 66 (va_cpy ((mu (mrow (mu (mrow (mu (mrow M1 54 (va_cpy (M1 52) (M1 54) 0 0 n0)) 49 1 (nI n0)) 55 (va_cpy ((mu (mrow M1 54 (va_cpy (M1 52) (M1 54) 0 0 n0)) 49 1 (nI n0)) 53) ((mu (mrow M1 54 (va_cpy (M1 52) (M1 54) 0 0 n0)) 49 1 (nI n0)) 55) 0 0 n1)) 50 1 (nI n1)) 63 (va_cpy ((mu (mrow (mu (mrow M1 54 (va_cpy (M1 52) (M1 54) 0 0 n0)) 49 1 (nI n0)) 55 (va_cpy ((mu (mrow M1 54 (va_cpy (M1 52) (M1 54) 0 0 n0)) 49 1 (nI n0)) 53) ((mu (mrow M1 54 (va_cpy (M1 52) (M1 54) 0 0 n0)) 49 1 (nI n0)) 55) 0 0 n1)) 50 1 (nI n1)) 62) ((mu (mrow (mu (mrow M1 54 (va_cpy (M1 52) (M1 54) 0 0 n0)) 49 1 (nI n0)) 55 (va_cpy ((mu (mrow M1 54 (va_cpy (M1 52) (M1 54) 0 0 n0)) 49 1 (nI n0)) 53) ((mu (mrow M1 54 (va_cpy (M1 52) (M1 54) 0 0 n0)) 49 1 (nI n0)) 55) 0 0 n1)) 50 1 (nI n1)) 63) 0 0 t)) 44 3 (nI t)) 65) ((mu (mrow (mu (mrow (mu (mrow M1 54 (va_cpy (M1 52) (M1 54) 0 0 n0)) 49 1 (nI n0)) 55 (va_cpy ((mu (mrow M1 54 (va_cpy (M1 52) (M1 54) 0 0 n0)) 49 1 (nI n0)) 53) ((mu (mrow M1 54 (va_cpy (M1 52) (M1 54) 0 0 n0)) 49 1 (nI n0)) 55) 0 0 n1)) 50 1 (nI n1)) 63 (va_cpy ((mu (mrow (mu (mrow M1 54 (va_cpy (M1 52) (M1 54) 0 0 n0)) 49 1 (nI n0)) 55 (va_cpy ((mu (mrow M1 54 (va_cpy (M1 52) (M1 54) 0 0 n0)) 49 1 (nI n0)) 53) ((mu (mrow M1 54 (va_cpy (M1 52) (M1 54) 0 0 n0)) 49 1 (nI n0)) 55) 0 0 n1)) 50 1 (nI n1)) 62) ((mu (mrow (mu (mrow M1 54 (va_cpy (M1 52) (M1 54) 0 0 n0)) 49 1 (nI n0)) 55 (va_cpy ((mu (mrow M1 54 (va_cpy (M1 52) (M1 54) 0 0 n0)) 49 1 (nI n0)) 53) ((mu (mrow M1 54 (va_cpy (M1 52) (M1 54) 0 0 n0)) 49 1 (nI n0)) 55) 0 0 n1)) 50 1 (nI n1)) 63) 0 0 t)) 44 3 (nI t)) 66) 0 0 u)) 44 5 (nI u)) 1 0 n n0 n1 t u := by
  obtain ⟨f1, f2, f3⟩ := hF
  refine ⟨fun i hi j hj => ?_, fun q q1 q2 => ?_, ⟨?_, fun k hk => ?_⟩, ⟨?_, fun k hk => ?_⟩, ⟨?_, fun k hk => ?_⟩, ⟨?_, fun k hk => ?_⟩, fun a g1 g2 g3 g4 g5 g6 g7 g8 g9 => ?_⟩
  · rw [← f1 i hi j hj]
    simp only [mu, mrow]
    (repeat rw [if_neg (by omega)])
  · rw [← f2 q q1 q2]
    simp [mu, mrow]
  · simp [mu_at, mrow]
  · simp [mu, mrow, va_cpy, hk]
    rw [f3 _ (by decide) (by decide)]
  · simp [mu_at, mrow]
  · simp [mu, mrow, va_cpy, hk]
    rw [f3 _ (by decide) (by decide)]
  · simp [mu_at, mrow]
  · simp [mu, mrow, va_cpy, hk]
    rw [f3 _ (by decide) (by decide)]
  · simp [mu_at, mrow]
  · simp [mu, mrow, va_cpy, hk]
    rw [f3 _ (by decide) (by decide)]
  · rw [← f3 a g1 g2]
    simp only [mu, mrow]
    (repeat rw [if_neg (by omega)])

theorem cpW_of_0 {M M1 : Mem} {n n0 n1 t u : Nat} (hn : M 38 1 = nI n) (h12 : n ≤ 12) (h0 : M 49 1 = nI n0) (h600 : n0 ≤ 60) (h1 : M 50 1 = nI n1) (h601 : n1 ≤ 60) (ht : M 44 3 = nI t) (h60 : t ≤ 60) (hu : M 44 5 = nI u) (h24 : u ≤ 24) (hF : cpF M M1 0 1 n) : cpW M (mu (mrow (mu (mrow (mu (mrow (mu (mrow M1 52 (va_cpy (M1 54) (M1 52) 0 0 n0)) 47 1 (nI n0)) 53 (va_cpy ((mu (mrow M1 52 (va_cpy (M1 54) (M1 52) 0 0 n0)) 47 1 (nI n0)) 55) ((mu (mrow M1 52 (va_cpy (M1 54) (M1 52) 0 0 n0)) 47 1 (nI n0)) 53) 0 0 n1)) 48 1 (nI n1)) 62 (va_cpy ((mu (mrow (mu (mrow M1 52 (va_cpy (M1 54) (M1 52) 0 0 n0)) 47 1 (nI n0)) 53 (va_cpy ((mu (mrow M1 52 (va_cpy (M1 54) (M1 52) 0 0 n0)) 47 1 (nI n0)) 55) ((mu (mrow M1 52 (va_cpy (M1 54) (M1 52) 0 0 n0)) 47 1 (nI n0)) 53) 0 0 n1)) 48 1 (nI n1)) 63) ((mu (mrow (mu (mrow M1 52 (va_cpy (M1 54) (M1 52) 0 0 n0)) 47 1 (nI n0)) 53 (va_cpy ((mu (mrow M1 52 (va_cpy (M1 54) (M1 52) 0 0 n0)) 47 1 (nI n0)) 55) ((mu (mrow M1 52 (va_cpy (M1 54) (M1 52) 0 0 n0)) 47 1 (nI n0)) 53) 0 0 n1)) 48 1 (nI n1)) 62) 0 0 t)) 43 3 (nI t)) 65 (va_cpy ((mu (mrow (mu (mrow (mu (mrow M1 52 (va_cpy (M1 54) (M1 52) 0 0 n0)) 47 1 (nI n0)) 53 (va_cpy ((mu (mrow M1 52 (va_cpy (M1 54) (M1 52) 0 0 n0)) 47 1 (nI n0)) 55) ((mu (mrow M1 52 (va_cpy (M1 54) (M1 52) 0 0 n0)) 47 1 (nI n0)) 53) 0 0 n1)) 48 1 (nI n1)) 62 (va_cpy ((mu (mrow (mu (mrow M1 52 (va_cpy (M1 54) (M1 52) 0 0 n0)) 47 1 (nI n0)) 53 (va_cpy ((mu (mrow M1 52 (va_cpy (M1 54) (M1 52) 0 0 n0)) 47 1 (nI n0)) 55) ((mu (mrow M1 52 (va_cpy (M1 54) (M1 52) 0 0 n0)) 47 1 (nI n0)) 53) 0 0 n1)) 48 1 (nI n1)) 63) ((mu (mrow (mu (mrow M1 52 (va_cpy (M1 54) (M1 52) 0 0 n0)) 47 1 (nI n0)) 53 (va_cpy ((mu (mrow M1 52 (va_cpy (M1 54) (M1 52) 0 0 n0)) 47 1 (nI n0)) 55) ((mu (mrow M1 52 (va_cpy (M1 54) (M1 52) 0 0 n0)) 47 1 (nI n0)) 53) 0 0 n1)) 48 1 (nI n1)) 62) 0 0 t)) 43 3 (nI t)) 66) ((mu (mrow (mu (mrow (mu (mrow M1 52 (va_cpy (M1 54) (M1 52) 0 0 n0)) 47 1 (nI n0)) 53 (va_cpy ((mu (mrow M1 52 (va_cpy (M1 54) (M1 52) 0 0 n0)) 47 1 (nI n0)) 55) ((mu (mrow M1 52 (va_cpy (M1 54) (M1 52) 0 0 n0)) 47 1 (nI n0)) 53) 0 0 n1)) 48 1 (nI n1)) 62 (va_cpy ((mu (mrow (mu (mrow M1 52 (va_cpy (M1 54) (M1 52) 0 0 n0)) 47 1 (nI n0)) 53 (va_cpy ((mu (mrow M1 52 (va_cpy (M1 54) (M1 52) 0 0 n0)) 47 1 (nI n0)) 55) ((mu (mrow M1 52 (va_cpy (M1 54) (M1 52) 0 0 n0)) 47 1 (nI n0)) 53) 0 0 n1)) 48 1 (nI n1)) 63) ((mu (mrow (mu (mrow M1 52 (va_cpy (M1 54) (M1 52) 0 0 n0)) 47 1 (nI n0)) 53 (va_cpy ((mu (mrow M1 52 (va_cpy (M1 54) (M1 52) 0 0 n0)) 47 1 (nI n0)) 55) ((mu (mrow M1 52 (va_cpy (M1 54) (M1 52) 0 0 n0)) 47 1 (nI n0)) 53) 0 0 n1)) 48 1 (nI n1)) 62) 0 0 t)) 43 3 (nI t)) 65) 0 0 u)) 43 5 (nI u)) 0 1 n n0 n1 t u := by
  obtain ⟨f1, f2, f3⟩ := hF
  refine ⟨fun i hi j hj => ?_, fun q q1 q2 => ?_, ⟨?_, fun k hk => ?_⟩, ⟨?_, fun k hk => ?_⟩, ⟨?_, fun k hk => ?_⟩, ⟨?_, fun k hk => ?_⟩, fun a g1 g2 g3 g4 g5 g6 g7 g8 g9 => ?_⟩
  · rw [← f1 i hi j hj]
    simp only [mu, mrow]
    (repeat rw [if_neg (by omega)])
  · rw [← f2 q q1 q2]
    simp [mu, mrow]
  · simp [mu_at, mrow]
  · simp [mu, mrow, va_cpy, hk]
    rw [f3 _ (by decide) (by decide)]
  · simp [mu_at, mrow]
  · simp [mu, mrow, va_cpy, hk]
    rw [f3 _ (by decide) (by decide)]
  · simp [mu_at, mrow]
  · simp [mu, mrow, va_cpy, hk]
    rw [f3 _ (by decide) (by decide)]
  · simp [mu_at, mrow]
  · simp [mu, mrow, va_cpy, hk]
    rw [f3 _ (by decide) (by decide)]
  · rw [← f3 a g1 g2]
    simp only [mu, mrow]
    (repeat rw [if_neg (by omega)])

set_option maxHeartbeats 4000000 in
set_option maxRecDepth 20000 in
theorem qX1_copyFrom (l : Launch) (g : GT) (M : Mem) {fi fo : Nat} (hfi : fi < 3) (hfo : fo < 3) (hne : fi ≠ fo) {n : Nat} (hn : M (37 + fo) 1 = nI n) (h12 : n ≤ 12) (hcov : ∀ i, i < n → M (12 * fo + i) 6 = 0 ∨ M (12 * fo + i) 6 = 1) : CtrV l g yX1_copyFrom cX1_copyFrom 3 1 [.ref (ga g (37 + fi)), .ref (ga g (37 + fo))] M (fun M1 => cpF M M1 fi fo n) := by
  refine ctrV_of (by decide +kernel) (Nat.le_of_ble_eq_true rfl) ?_
  intro pP eE RR sS mI aG bB mE cD C
  refine k_lo (lo' := [(0, .ref (ga g (37 + fi))), (1, .ref (ga g (37 + fo)))]) rfl ?_
  have hx : ¬ (37 + fo = 37 + fi) := by omega
  refine k_iconst C 1 (v := 0) (by decide) dX1_copyFrom_0 rfl ?_
  refine k_istore_n C 2 [(2, .int 0), (0, .ref (ga g (37 + fi))), (1, .ref (ga g (37 + fo)))] rfl (by decide) rfl dX1_copyFrom_1 rfl ?_
  refine k_sub [(0, .ref (ga g (37 + fi))), (1, .ref (ga g (37 + fo))), (2, .int 0)] [1, 2, 0] rfl ?_
  refine k_all (M' := M) (lo' := [(0, .ref (ga g (37 + fi))), (1, .ref (ga g (37 + fo))), (2, .int (nI 0))]) (st' := []) (by rfl) (by rfl) rfl ?_
  refine k_loop (σ := Nat × Mem) (fun (v : Nat × Mem) => match v with | (i, M1) => (i ≤ n) ∧ (∀ i2, i2 < i → ∀ j, j < 7 → M1 (12 * fi + i2) j = M (12 * fo + i2) j) ∧ (∀ a, ¬ (12 * fi ≤ a ∧ a < 12 * fi + 12) → M1 a = M a)) (fun (v : Nat × Mem) => match v with | (i, M1) => n - i) (fun (v : Nat × Mem) => match v with | (i, M1) => M1) (fun (v : Nat × Mem) => match v with | (i, M1) => [(0, .ref (ga g (37 + fi))), (1, .ref (ga g (37 + fo))), (2, .int (nI i))]) (0, M) (show (0 ≤ n) ∧ (∀ i2, i2 < 0 → ∀ j, j < 7 → M (12 * fi + i2) j = M (12 * fo + i2) j) ∧ (∀ a, ¬ (12 * fi ≤ a ∧ a < 12 * fi + 12) → M a = M a) from by exact ⟨Nat.zero_le _, fun _ h => absurd h (Nat.not_lt_zero _), fun _ _ => rfl⟩) ?_
  rintro ⟨i, M1⟩ hI ih
  have hI : (i ≤ n) ∧ (∀ i2, i2 < i → ∀ j, j < 7 → M1 (12 * fi + i2) j = M (12 * fo + i2) j) ∧ (∀ a, ¬ (12 * fi ≤ a ∧ a < 12 * fi + 12) → M1 a = M a) := hI
  obtain ⟨hi, hA, hB⟩ := hI
  show KW pP l eE RR sS mI aG bB mE cD g 3 _ (M1) 2 [(0, .ref (ga g (37 + fi))), (1, .ref (ga g (37 + fo))), (2, .int (nI i))] []
  refine k_iload_n C 3 2 rfl rfl dX1_copyFrom_2 rfl ?_
  refine k_aload_n C 4 1 rfl rfl dX1_copyFrom_3 rfl ?_
  refine k_get C 7 flX1_25 (37 + fo) (lt105_fld hfo) (v := .int ((M1) (37 + fo) 1)) (ce_fld g _ hfo) rfl dX1_copyFrom_4 rfl ?_
  refine k_teq (y := nI n) (by rw [hB _ (by omega)]; exact hn) ?_
  refine k_icmp_ge C 31 10 dX1_copyFrom_7 (by decide) rfl (fun c7 => ?_) (fun d7 => ?_)
  · skip
    have c7 := (nI_leI (by omega) (by omega)).mp (show nI n ≤ nI i from c7)
    refine k_aload_n C 32 0 rfl rfl dX1_copyFrom_31 rfl ?_
    refine k_aload_n C 33 1 rfl rfl dX1_copyFrom_32 rfl ?_
    refine k_get C 36 flX1_25 (37 + fo) (lt105_fld hfo) (v := .int ((M1) (37 + fo) 1)) (ce_fld g _ hfo) rfl dX1_copyFrom_33 rfl ?_
    refine k_teq (y := nI n) (by rw [hB _ (by omega)]; exact hn) ?_
    refine k_put C 39 flX1_25 plX1 (37 + fi) (lt105_fld hfi) (ce_fld g _ hfi) (ce_fld g _ hfi) (Nat.le_of_ble_eq_true rfl) rfl rfl rfl dX1_copyFrom_36 rfl ?_
    refine k_aload_n C 40 0 rfl rfl dX1_copyFrom_39 rfl ?_
    refine k_aload_n C 41 1 rfl rfl dX1_copyFrom_40 rfl ?_
    refine k_get C 44 flX1_78 (37 + fo) (lt105_fld hfo) (v := .int ((mu M1 (37 + fi) 1 (nI n)) (37 + fo) 2)) (ce_fld g _ hfo) rfl dX1_copyFrom_41 rfl ?_
    refine k_teq (show (mu M1 (37 + fi) 1 (nI n)) (37 + fo) 2 = M1 (37 + fo) 2 by simp [mu_at, hx]) ?_
    refine k_put C 47 flX1_78 plX1 (37 + fi) (lt105_fld hfi) (ce_fld g _ hfi) (ce_fld g _ hfi) (Nat.le_of_ble_eq_true rfl) rfl rfl rfl dX1_copyFrom_44 rfl ?_
    refine k_aload_n C 48 0 rfl rfl dX1_copyFrom_47 rfl ?_
    refine k_aload_n C 49 1 rfl rfl dX1_copyFrom_48 rfl ?_
    refine k_get C 52 flX1_17 (37 + fo) (lt105_fld hfo) (v := .int ((mu (mu M1 (37 + fi) 1 (nI n)) (37 + fi) 2 (M1 (37 + fo) 2)) (37 + fo) 3)) (ce_fld g _ hfo) rfl dX1_copyFrom_49 rfl ?_
    refine k_teq (show (mu (mu M1 (37 + fi) 1 (nI n)) (37 + fi) 2 (M1 (37 + fo) 2)) (37 + fo) 3 = M1 (37 + fo) 3 by simp [mu_at, hx]) ?_
    refine k_put C 55 flX1_17 plX1 (37 + fi) (lt105_fld hfi) (ce_fld g _ hfi) (ce_fld g _ hfi) (Nat.le_of_ble_eq_true rfl) rfl rfl rfl dX1_copyFrom_52 rfl ?_
    refine k_aload_n C 56 0 rfl rfl dX1_copyFrom_55 rfl ?_
    refine k_aload_n C 57 1 rfl rfl dX1_copyFrom_56 rfl ?_
    refine k_get C 60 flX1_21 (37 + fo) (lt105_fld hfo) (v := .int ((mu (mu (mu M1 (37 + fi) 1 (nI n)) (37 + fi) 2 (M1 (37 + fo) 2)) (37 + fi) 3 (M1 (37 + fo) 3)) (37 + fo) 4)) (ce_fld g _ hfo) rfl dX1_copyFrom_57 rfl ?_
    refine k_teq (show (mu (mu (mu M1 (37 + fi) 1 (nI n)) (37 + fi) 2 (M1 (37 + fo) 2)) (37 + fi) 3 (M1 (37 + fo) 3)) (37 + fo) 4 = M1 (37 + fo) 4 by simp [mu_at, hx]) ?_
    refine k_put C 63 flX1_21 plX1 (37 + fi) (lt105_fld hfi) (ce_fld g _ hfi) (ce_fld g _ hfi) (Nat.le_of_ble_eq_true rfl) rfl rfl rfl dX1_copyFrom_60 rfl ?_
    refine k_vret C dX1_copyFrom_63 ?_
    refine ⟨fun i2 h j hj => ?_, fun q h1 h2 => ?_, fun a ha h => ?_⟩
    · simp only [mu_n _ _ _ (show 12 * fi + i2 ≠ 37 + fi by omega)]
      exact hA i2 (by omega) j hj
    · have e := hB (37 + fo) (by omega)
      rcases (show q = 1 ∨ q = 2 ∨ q = 3 ∨ q = 4 by omega) with rfl | rfl | rfl | rfl <;> simp [mu_at, ← e] <;> (try exact (e ▸ hn).symm) <;> simp [e, hn]
    · simp only [mu_n _ _ _ h]
      exact hB a ha
  · skip
    have d7 := mt (nI_leI (by omega) (by omega)).mpr (show ¬ (nI n ≤ nI i) from d7)
    refine k_aload_n C 11 0 rfl rfl dX1_copyFrom_10 rfl ?_
    refine k_get C 14 flX1_11 (37 + fi) (lt105_fld hfi) (v := .ref (ga g (40 + fi))) (ce_fld g _ hfi) rfl dX1_copyFrom_11 rfl ?_
    refine k_iload_n C 15 2 rfl rfl dX1_copyFrom_14 rfl ?_
    refine k_aald C 16 (40 + fi) i 3 (lt105_fa hfi) (ce_fa g _ hfi) rfl (by decide) rfl (by omega) dX1_copyFrom_15 rfl ?_
    refine k_st (st' := [.ref (ga g (12 * fi + i))]) rfl ?_
    refine k_aload_n C 17 1 rfl rfl dX1_copyFrom_16 rfl ?_
    refine k_get C 20 flX1_11 (37 + fo) (lt105_fld hfo) (v := .ref (ga g (40 + fo))) (ce_fld g _ hfo) rfl dX1_copyFrom_17 rfl ?_
    refine k_iload_n C 21 2 rfl rfl dX1_copyFrom_20 rfl ?_
    refine k_aald C 22 (40 + fo) i 3 (lt105_fa hfo) (ce_fa g _ hfo) rfl (by decide) rfl (by omega) dX1_copyFrom_21 rfl ?_
    refine k_st (st' := [.ref (ga g (12 * fo + i)), .ref (ga g (12 * fi + i))]) rfl ?_
    refine k_callVV C 25 (As := [.ref (ga g (12 * fo + i))]) (st := []) (12 * fi + i) (lt105_fu (fu_lt hfi (by omega))) (ce_fu g _ (fu_lt hfi (by omega))) rfl rfl mwX1_95 vlX2_copyFrom (qX2_copyFrom l g M1 (fu_lt hfi (show i < 12 by omega)) (fu_lt hfo (show i < 12 by omega)) (by omega) (by rw [hB _ (by omega)]; exact hcov i (by omega))) mlX2_copyFrom (by decide) (by decide) rfl rfl (Nat.le_of_ble_eq_true rfl) dX1_copyFrom_22 rfl (fun M2 h2 => ?_)
    refine k_iinc C 28 (nI (i + 1)) 2 [(2, .int (nI (i + 1))), (0, .ref (ga g (37 + fi))), (1, .ref (ga g (37 + fo)))] rfl (iinc_p i) (by decide) rfl dX1_copyFrom_25 rfl ?_
    refine k_goto C 2 dX1_copyFrom_28 (by decide) ?_
    refine k_sub [(0, .ref (ga g (37 + fi))), (1, .ref (ga g (37 + fo))), (2, .int (nI (i + 1)))] [1, 2, 0] rfl ?_
    refine k_all (M' := M2) (lo' := [(0, .ref (ga g (37 + fi))), (1, .ref (ga g (37 + fo))), (2, .int (nI (i + 1)))]) (st' := []) (by rfl) (by rfl) rfl ?_
    exact ih (i + 1, M2) (show ((i + 1) ≤ n) ∧ (∀ i2, i2 < (i + 1) → ∀ j, j < 7 → M2 (12 * fi + i2) j = M (12 * fo + i2) j) ∧ (∀ a, ¬ (12 * fi ≤ a ∧ a < 12 * fi + 12) → M2 a = M a) from by exact ⟨by omega, fun i2 h j hj => by
            by_cases e : i2 = i
            · subst e; rw [h2.1 j hj, hB _ (by omega)]
            · rw [h2.2 _ (by omega)]; exact hA i2 (by omega) j hj, fun a ha => by rw [h2.2 _ (by omega)]; exact hB a ha⟩) (by show n - (i + 1) < n - i; omega)
set_option maxHeartbeats 4000000 in
set_option maxRecDepth 20000 in
theorem qX1_passYearByDraws (l : Launch) (g : GT) (M : Mem) {fi : Nat} (hfi : fi < 3) {n : Nat} (hn : M (37 + fi) 1 = nI n) (h12 : n ≤ 12)  : CtrU l g yX1_passYearByDraws cX1_passYearByDraws 4 4 [.ref (ga g (37 + fi))] M (pLoose M fi n) := by
  refine ctrV_of (by decide +kernel) (Nat.le_of_ble_eq_true rfl) ?_
  intro pP eE RR sS mI aG bB mE cD C
  refine k_lo (lo' := [(0, .ref (ga g (37 + fi)))]) rfl ?_
  refine k_aload_n C 1 0 rfl rfl dX1_passYearByDraws_0 rfl ?_
  refine k_get C 4 flX1_25 (37 + fi) (lt105_fld hfi) (v := .int ((M) (37 + fi) 1)) (ce_fld g _ hfi) rfl dX1_passYearByDraws_1 rfl ?_
  refine k_teq (y := nI n) hn ?_
  refine k_bipush C 6 (v := 12) (by decide) dX1_passYearByDraws_4 rfl ?_
  refine k_icmp_ge C 47 9 dX1_passYearByDraws_6 (by decide) rfl (fun c6 => ?_) (fun d6 => ?_)
  · skip
    have c6 := (nI_leI (by omega) (by omega)).mp (show nI 12 ≤ nI n from c6)
    refine k_aload_n C 48 0 rfl rfl dX1_passYearByDraws_47 rfl ?_
    refine k_callVU C 51 (As := []) (st := []) (37 + fi) (lt105_fld hfi) (ce_fld g _ hfi) rfl rfl mwX1_81 vlX1_passYear (qX1_passYear l g M hfi (n := n) hn h12) mlX1_passYear (by decide) (by decide) rfl rfl (Nat.le_of_ble_eq_true rfl) dX1_passYearByDraws_48 rfl ?_
    refine k_vret C dX1_passYearByDraws_51 ?_
    show _ = _
    unfold pLoose
    rw [if_neg (by omega)]
  · skip
    have d6 := mt (nI_leI (by omega) (by omega)).mpr (show ¬ (nI 12 ≤ nI n) from d6)
    refine k_aload_n C 10 0 rfl rfl dX1_passYearByDraws_9 rfl ?_
    refine k_callVE C 13 (As := []) (st := []) (37 + fi) (lt105_fld hfi) (ce_fld g _ hfi) rfl rfl mwX1_84 vlX1_nextDraw (qX1_nextDraw l g M hfi) mlX1_nextDraw (by decide) (by decide) rfl rfl (Nat.le_of_ble_eq_true rfl) dX1_passYearByDraws_10 rfl ?_
    refine k_bipush C 15 (v := 7) (by decide) dX1_passYearByDraws_13 rfl ?_
    refine k_irem C 16 (by decide) dX1_passYearByDraws_15 rfl ?_
    refine k_istore_n C 17 [(1, .int ((pUs (pNd (M (37 + fi) 4))) - (pUs (pNd (M (37 + fi) 4))) / 7 * 7)), (0, .ref (ga g (37 + fi)))] rfl (by decide) rfl dX1_passYearByDraws_16 rfl ?_
    refine k_aload_n C 18 1 rfl rfl dX1_passYearByDraws_17 rfl ?_
    refine k_callVE C 21 (As := []) (st := []) (37 + fi) (lt105_fld hfi) (ce_fld g _ hfi) rfl rfl mwX1_84 vlX1_nextDraw (qX1_nextDraw l g (mu M (37 + fi) 4 (pNd (M (37 + fi) 4))) hfi) mlX1_nextDraw (by decide) (by decide) rfl rfl (Nat.le_of_ble_eq_true rfl) dX1_passYearByDraws_18 rfl ?_
    refine k_bipush C 23 (v := 72) (by decide) dX1_passYearByDraws_21 rfl ?_
    refine k_irem C 24 (by decide) dX1_passYearByDraws_23 rfl ?_
    refine k_callNE C 27 (As := [.int ((pUs (pNd ((mu M (37 + fi) 4 (pNd (M (37 + fi) 4))) (37 + fi) 4))) - (pUs (pNd ((mu M (37 + fi) 4 (pNd (M (37 + fi) 4))) (37 + fi) 4))) / 72 * 72)]) (st := []) nwX1_87 skX9_lineAt (qX9_lineAt l g (mu (mu M (37 + fi) 4 (pNd (M (37 + fi) 4))) (37 + fi) 4 (pNd ((mu M (37 + fi) 4 (pNd (M (37 + fi) 4))) (37 + fi) 4))) ((pUs (pNd ((mu M (37 + fi) 4 (pNd (M (37 + fi) 4))) (37 + fi) 4))) - (pUs (pNd ((mu M (37 + fi) 4 (pNd (M (37 + fi) 4))) (37 + fi) 4))) / 72 * 72)) mlX9_lineAt (by decide) (by decide) rfl rfl (Nat.le_of_ble_eq_true rfl) dX1_passYearByDraws_24 rfl ?_
    refine k_istore_n C 28 [(2, .int (10 * (1 + ((pUs (pNd ((mu M (37 + fi) 4 (pNd (M (37 + fi) 4))) (37 + fi) 4))) - (pUs (pNd ((mu M (37 + fi) 4 (pNd (M (37 + fi) 4))) (37 + fi) 4))) / 72 * 72) / 6) + (((pUs (pNd ((mu M (37 + fi) 4 (pNd (M (37 + fi) 4))) (37 + fi) 4))) - (pUs (pNd ((mu M (37 + fi) 4 (pNd (M (37 + fi) 4))) (37 + fi) 4))) / 72 * 72) - ((pUs (pNd ((mu M (37 + fi) 4 (pNd (M (37 + fi) 4))) (37 + fi) 4))) - (pUs (pNd ((mu M (37 + fi) 4 (pNd (M (37 + fi) 4))) (37 + fi) 4))) / 72 * 72) / 6 * 6))), (1, .int ((pUs (pNd (M (37 + fi) 4))) - (pUs (pNd (M (37 + fi) 4))) / 7 * 7)), (0, .ref (ga g (37 + fi)))] rfl (by decide) rfl dX1_passYearByDraws_27 rfl ?_
    refine k_aload_n C 29 2 rfl rfl dX1_passYearByDraws_28 rfl ?_
    refine k_callVE C 32 (As := []) (st := []) (37 + fi) (lt105_fld hfi) (ce_fld g _ hfi) rfl rfl mwX1_84 vlX1_nextDraw (qX1_nextDraw l g (mu (mu M (37 + fi) 4 (pNd (M (37 + fi) 4))) (37 + fi) 4 (pNd ((mu M (37 + fi) 4 (pNd (M (37 + fi) 4))) (37 + fi) 4))) hfi) mlX1_nextDraw (by decide) (by decide) rfl rfl (Nat.le_of_ble_eq_true rfl) dX1_passYearByDraws_29 rfl ?_
    refine k_bipush C 34 (v := 6) (by decide) dX1_passYearByDraws_32 rfl ?_
    refine k_irem C 35 (by decide) dX1_passYearByDraws_34 rfl ?_
    refine k_istore_n C 36 [(3, .int ((pUs (pNd ((mu (mu M (37 + fi) 4 (pNd (M (37 + fi) 4))) (37 + fi) 4 (pNd ((mu M (37 + fi) 4 (pNd (M (37 + fi) 4))) (37 + fi) 4))) (37 + fi) 4))) - (pUs (pNd ((mu (mu M (37 + fi) 4 (pNd (M (37 + fi) 4))) (37 + fi) 4 (pNd ((mu M (37 + fi) 4 (pNd (M (37 + fi) 4))) (37 + fi) 4))) (37 + fi) 4))) / 6 * 6)), (2, .int (10 * (1 + ((pUs (pNd ((mu M (37 + fi) 4 (pNd (M (37 + fi) 4))) (37 + fi) 4))) - (pUs (pNd ((mu M (37 + fi) 4 (pNd (M (37 + fi) 4))) (37 + fi) 4))) / 72 * 72) / 6) + (((pUs (pNd ((mu M (37 + fi) 4 (pNd (M (37 + fi) 4))) (37 + fi) 4))) - (pUs (pNd ((mu M (37 + fi) 4 (pNd (M (37 + fi) 4))) (37 + fi) 4))) / 72 * 72) - ((pUs (pNd ((mu M (37 + fi) 4 (pNd (M (37 + fi) 4))) (37 + fi) 4))) - (pUs (pNd ((mu M (37 + fi) 4 (pNd (M (37 + fi) 4))) (37 + fi) 4))) / 72 * 72) / 6 * 6))), (1, .int ((pUs (pNd (M (37 + fi) 4))) - (pUs (pNd (M (37 + fi) 4))) / 7 * 7)), (0, .ref (ga g (37 + fi)))] rfl (by decide) rfl dX1_passYearByDraws_35 rfl ?_
    refine k_aload_n C 37 3 rfl rfl dX1_passYearByDraws_36 rfl ?_
    refine k_bipush C 39 (v := 10) (by decide) dX1_passYearByDraws_37 rfl ?_
    refine k_iload_n C 40 2 rfl rfl dX1_passYearByDraws_39 rfl ?_
    refine k_imul C 41 dX1_passYearByDraws_40 rfl ?_
    refine k_iload_n C 42 1 rfl rfl dX1_passYearByDraws_41 rfl ?_
    refine k_iload_n C 43 0 rfl rfl dX1_passYearByDraws_42 rfl ?_
    refine k_callVE C 46 (As := [.int (10 * ((pUs (pNd (M (37 + fi) 4))) - (pUs (pNd (M (37 + fi) 4))) / 7 * 7)), .int (10 * (1 + ((pUs (pNd ((mu M (37 + fi) 4 (pNd (M (37 + fi) 4))) (37 + fi) 4))) - (pUs (pNd ((mu M (37 + fi) 4 (pNd (M (37 + fi) 4))) (37 + fi) 4))) / 72 * 72) / 6) + (((pUs (pNd ((mu M (37 + fi) 4 (pNd (M (37 + fi) 4))) (37 + fi) 4))) - (pUs (pNd ((mu M (37 + fi) 4 (pNd (M (37 + fi) 4))) (37 + fi) 4))) / 72 * 72) - ((pUs (pNd ((mu M (37 + fi) 4 (pNd (M (37 + fi) 4))) (37 + fi) 4))) - (pUs (pNd ((mu M (37 + fi) 4 (pNd (M (37 + fi) 4))) (37 + fi) 4))) / 72 * 72) / 6 * 6)), .int ((pUs (pNd ((mu (mu M (37 + fi) 4 (pNd (M (37 + fi) 4))) (37 + fi) 4 (pNd ((mu M (37 + fi) 4 (pNd (M (37 + fi) 4))) (37 + fi) 4))) (37 + fi) 4))) - (pUs (pNd ((mu (mu M (37 + fi) 4 (pNd (M (37 + fi) 4))) (37 + fi) 4 (pNd ((mu M (37 + fi) 4 (pNd (M (37 + fi) 4))) (37 + fi) 4))) (37 + fi) 4))) / 6 * 6)]) (st := []) (37 + fi) (lt105_fld hfi) (ce_fld g _ hfi) rfl rfl mwX1_90 vlX1_add (qX1_add l g (mu (mu (mu M (37 + fi) 4 (pNd (M (37 + fi) 4))) (37 + fi) 4 (pNd ((mu M (37 + fi) 4 (pNd (M (37 + fi) 4))) (37 + fi) 4))) (37 + fi) 4 (pNd ((mu (mu M (37 + fi) 4 (pNd (M (37 + fi) 4))) (37 + fi) 4 (pNd ((mu M (37 + fi) 4 (pNd (M (37 + fi) 4))) (37 + fi) 4))) (37 + fi) 4))) hfi (n := n) (by simp only [mu_o _ _ _ (show (1 : Nat) ≠ 4 by decide)]; exact hn) (by omega) (10 * ((pUs (pNd (M (37 + fi) 4))) - (pUs (pNd (M (37 + fi) 4))) / 7 * 7)) (10 * (1 + ((pUs (pNd ((mu M (37 + fi) 4 (pNd (M (37 + fi) 4))) (37 + fi) 4))) - (pUs (pNd ((mu M (37 + fi) 4 (pNd (M (37 + fi) 4))) (37 + fi) 4))) / 72 * 72) / 6) + (((pUs (pNd ((mu M (37 + fi) 4 (pNd (M (37 + fi) 4))) (37 + fi) 4))) - (pUs (pNd ((mu M (37 + fi) 4 (pNd (M (37 + fi) 4))) (37 + fi) 4))) / 72 * 72) - ((pUs (pNd ((mu M (37 + fi) 4 (pNd (M (37 + fi) 4))) (37 + fi) 4))) - (pUs (pNd ((mu M (37 + fi) 4 (pNd (M (37 + fi) 4))) (37 + fi) 4))) / 72 * 72) / 6 * 6)) ((pUs (pNd ((mu (mu M (37 + fi) 4 (pNd (M (37 + fi) 4))) (37 + fi) 4 (pNd ((mu M (37 + fi) 4 (pNd (M (37 + fi) 4))) (37 + fi) 4))) (37 + fi) 4))) - (pUs (pNd ((mu (mu M (37 + fi) 4 (pNd (M (37 + fi) 4))) (37 + fi) 4 (pNd ((mu M (37 + fi) 4 (pNd (M (37 + fi) 4))) (37 + fi) 4))) (37 + fi) 4))) / 6 * 6)) mlX1_add (by decide) (by decide) rfl rfl (Nat.le_of_ble_eq_true rfl) dX1_passYearByDraws_43 rfl ?_
    refine k_pop C 47 rfl dX1_passYearByDraws_46 rfl ?_
    refine k_aload_n C 48 3 rfl rfl dX1_passYearByDraws_47 rfl ?_
    refine k_callVU C 51 (As := []) (st := []) (37 + fi) (lt105_fld hfi) (ce_fld g _ hfi) rfl rfl mwX1_81 vlX1_passYear (qX1_passYear l g (pAdd (mu (mu (mu M (37 + fi) 4 (pNd (M (37 + fi) 4))) (37 + fi) 4 (pNd ((mu M (37 + fi) 4 (pNd (M (37 + fi) 4))) (37 + fi) 4))) (37 + fi) 4 (pNd ((mu (mu M (37 + fi) 4 (pNd (M (37 + fi) 4))) (37 + fi) 4 (pNd ((mu M (37 + fi) 4 (pNd (M (37 + fi) 4))) (37 + fi) 4))) (37 + fi) 4))) fi n (10 * ((pUs (pNd (M (37 + fi) 4))) - (pUs (pNd (M (37 + fi) 4))) / 7 * 7)) (10 * (1 + ((pUs (pNd ((mu M (37 + fi) 4 (pNd (M (37 + fi) 4))) (37 + fi) 4))) - (pUs (pNd ((mu M (37 + fi) 4 (pNd (M (37 + fi) 4))) (37 + fi) 4))) / 72 * 72) / 6) + (((pUs (pNd ((mu M (37 + fi) 4 (pNd (M (37 + fi) 4))) (37 + fi) 4))) - (pUs (pNd ((mu M (37 + fi) 4 (pNd (M (37 + fi) 4))) (37 + fi) 4))) / 72 * 72) - ((pUs (pNd ((mu M (37 + fi) 4 (pNd (M (37 + fi) 4))) (37 + fi) 4))) - (pUs (pNd ((mu M (37 + fi) 4 (pNd (M (37 + fi) 4))) (37 + fi) 4))) / 72 * 72) / 6 * 6)) ((pUs (pNd ((mu (mu M (37 + fi) 4 (pNd (M (37 + fi) 4))) (37 + fi) 4 (pNd ((mu M (37 + fi) 4 (pNd (M (37 + fi) 4))) (37 + fi) 4))) (37 + fi) 4))) - (pUs (pNd ((mu (mu M (37 + fi) 4 (pNd (M (37 + fi) 4))) (37 + fi) 4 (pNd ((mu M (37 + fi) 4 (pNd (M (37 + fi) 4))) (37 + fi) 4))) (37 + fi) 4))) / 6 * 6)) hfi (n := n + 1) (by unfold pAdd; rw [mu_s]) (by omega)) mlX1_passYear (by decide) (by decide) rfl rfl (Nat.le_of_ble_eq_true rfl) dX1_passYearByDraws_48 rfl ?_
    refine k_vret C dX1_passYearByDraws_51 ?_
    show _ = _
    unfold pLoose
    rw [if_pos (by omega)]
    simp only [mu_s]
    rw [show ∀ (N1 : Mem) (a b c : Int32), pAdd N1 fi n a b c (37 + fi) 3 = N1 (37 + fi) 3 from fun N1 a b c => by
      unfold pAdd; rw [mu_o _ _ _ (by decide)]; simp only [mu_n _ _ _ (show 37 + fi ≠ 12 * fi + n by omega)]]
    simp only [mu_o _ _ _ (show (3 : Nat) ≠ 4 by decide)]
    rfl
set_option maxHeartbeats 4000000 in
set_option maxRecDepth 20000 in
theorem qX8_giveUse (l : Launch) (g : GT) (M : Mem) {w : Nat} (hw : w < 2) {u : Nat} (hu : u < 2) {n : Nat} (hL : lawOk M (2 * w + u) n) (a b c : Int32) : CtrI l g yX8_giveUse cX8_giveUse 6 (some .int) 3 [.ref (ga g (43 + w)), .int (nI u), .int a, .int b, .int c] M (fun r M1 => r = pGive u n (M (52 + (2 * w + u))) a b c ∧ Sc lawS M M1) := by
  refine ctrI_of (by decide +kernel) (Nat.le_of_ble_eq_true rfl) ?_
  intro pP eE RR sS mI aG bB mE cD C
  refine k_lo (lo' := [(0, .ref (ga g (43 + w))), (1, .int (nI u)), (2, .int a), (3, .int b), (4, .int c)]) rfl ?_
  refine k_aload_n C 1 0 rfl rfl dX8_giveUse_0 rfl ?_
  refine k_get C 4 flX8_20 (43 + w) (lt105_wld hw) (v := .ref (ga g (45 + w))) (ce_wld g _ hw) rfl dX8_giveUse_1 rfl ?_
  refine k_iload_n C 5 1 rfl rfl dX8_giveUse_4 rfl ?_
  refine k_aald C 6 (45 + w) u 4 (lt105_la hw) (ce_la g _ hw) rfl (by decide) rfl (by omega) dX8_giveUse_5 rfl ?_
  refine k_st (st' := [.ref (ga g (47 + (2 * w + u)))]) rfl ?_
  refine k_astore C 8 [(5, .ref (ga g (47 + (2 * w + u)))), (0, .ref (ga g (43 + w))), (1, .int (nI u)), (2, .int a), (3, .int b), (4, .int c)]  (by decide) rfl dX8_giveUse_6 rfl ?_
  refine k_iload_n C 9 2 rfl rfl dX8_giveUse_8 rfl ?_
  refine k_if_ne C 42 12 dX8_giveUse_9 (by decide) rfl (fun c9 => ?_) (fun d9 => ?_)
  · skip
    have c9 := mt (nI_eq (by omega) (by omega)).mpr (show ¬ (nI u = nI 0) from c9)
    refine k_aload C 44 0  rfl dX8_giveUse_42 rfl ?_
    refine k_callVE C 47 (As := []) (st := []) (47 + (2 * w + u)) (lt105_law (la_lt hw (by omega))) (ce_law g _ (la_lt hw (by omega))) rfl rfl mwX8_33 vlX3_isGiven (qX3_isGiven l g M (la_lt hw hu) (n := n) hL.1 hL.2.1) mlX3_isGiven (by decide) (by decide) rfl rfl (Nat.le_of_ble_eq_true rfl) dX8_giveUse_44 rfl ?_
    refine k_if_eqB C 62 50 dX8_giveUse_47 (by decide) rfl (fun c47 => ?_) (fun d47 => ?_)
    · skip
      refine k_iload_n C 63 3 rfl rfl dX8_giveUse_62 rfl ?_
      refine k_iload_n C 64 4 rfl rfl dX8_giveUse_63 rfl ?_
      refine k_imul C 65 dX8_giveUse_64 rfl ?_
      refine k_bipush C 67 (v := (-99)) (by decide) dX8_giveUse_65 rfl ?_
      refine k_bipush C 69 (v := 99) (by decide) dX8_giveUse_67 rfl ?_
      refine k_callNE C 72 (As := [.int (a * b), .int (-99), .int 99]) (st := []) nwX8_41 skX9_hold (qX9_hold l g M (a * b) (-99) 99 (by decide)) mlX9_hold (by decide) (by decide) rfl rfl (Nat.le_of_ble_eq_true rfl) dX8_giveUse_69 rfl ?_
      refine k_ret C rfl dX8_giveUse_72 ?_
      exact ⟨by unfold pGive; rw [if_neg (show ¬ u = 0 by omega), if_neg (of_decide_eq_false c47)], Sc.rf _ _⟩
    · skip
      refine k_aload C 52 0  rfl dX8_giveUse_50 rfl ?_
      refine k_iload_n C 53 3 rfl rfl dX8_giveUse_52 rfl ?_
      refine k_iload_n C 54 4 rfl rfl dX8_giveUse_53 rfl ?_
      refine k_iload C 56 5  rfl dX8_giveUse_54 rfl ?_
      refine k_callVI C 59 (As := [.int a, .int b, .int c]) (st := []) (47 + (2 * w + u)) (lt105_law (la_lt hw (by omega))) (ce_law g _ (la_lt hw (by omega))) rfl rfl mwX8_37 vlX3_workOut (qX3_workOut l g M (la_lt hw hu) (n := n) hL.1 hL.2.1 (of_decide_eq_true d47) (hL.2.2 (of_decide_eq_true d47)) a b c) mlX3_workOut (by decide) (by decide) rfl rfl (Nat.le_of_ble_eq_true rfl) dX8_giveUse_56 rfl (fun r M56 h56 => ?_)
      obtain ⟨hr, hs56⟩ := h56
      subst hr
      refine k_goto C 65 dX8_giveUse_59 (by decide) ?_
      refine k_bipush C 67 (v := (-99)) (by decide) dX8_giveUse_65 rfl ?_
      refine k_bipush C 69 (v := 99) (by decide) dX8_giveUse_67 rfl ?_
      refine k_callNE C 72 (As := [.int (pVal (M (52 + (2 * w + u))) n (vv a b c)), .int (-99), .int 99]) (st := []) nwX8_41 skX9_hold (qX9_hold l g M56 (pVal (M (52 + (2 * w + u))) n (vv a b c)) (-99) 99 (by decide)) mlX9_hold (by decide) (by decide) rfl rfl (Nat.le_of_ble_eq_true rfl) dX8_giveUse_69 rfl ?_
      refine k_ret C rfl dX8_giveUse_72 ?_
      exact ⟨by unfold pGive; rw [if_neg (show ¬ u = 0 by omega), if_pos (of_decide_eq_true d47)], hs56⟩
  · skip
    have d9 := (nI_eq (by omega) (by omega)).mp (show nI u = nI 0 from d9)
    refine k_aload C 14 0  rfl dX8_giveUse_12 rfl ?_
    refine k_callVE C 17 (As := []) (st := []) (47 + (2 * w + u)) (lt105_law (la_lt hw (by omega))) (ce_law g _ (la_lt hw (by omega))) rfl rfl mwX8_33 vlX3_isGiven (qX3_isGiven l g M (la_lt hw hu) (n := n) hL.1 hL.2.1) mlX3_isGiven (by decide) (by decide) rfl rfl (Nat.le_of_ble_eq_true rfl) dX8_giveUse_14 rfl ?_
    refine k_if_eqB C 32 20 dX8_giveUse_17 (by decide) rfl (fun c17 => ?_) (fun d17 => ?_)
    · skip
      refine k_iload_n C 33 3 rfl rfl dX8_giveUse_32 rfl ?_
      refine k_iload_n C 34 4 rfl rfl dX8_giveUse_33 rfl ?_
      refine k_iadd C 35 dX8_giveUse_34 rfl ?_
      refine k_iconst C 36 (v := 1) (by decide) dX8_giveUse_35 rfl ?_
      refine k_bipush C 38 (v := 99) (by decide) dX8_giveUse_36 rfl ?_
      refine k_callNE C 41 (As := [.int (a + b), .int 1, .int 99]) (st := []) nwX8_41 skX9_hold (qX9_hold l g M (a + b) 1 99 (by decide)) mlX9_hold (by decide) (by decide) rfl rfl (Nat.le_of_ble_eq_true rfl) dX8_giveUse_38 rfl ?_
      refine k_ret C rfl dX8_giveUse_41 ?_
      exact ⟨by unfold pGive; rw [if_pos (show u = 0 by omega), if_neg (of_decide_eq_false c17)], Sc.rf _ _⟩
    · skip
      refine k_aload C 22 0  rfl dX8_giveUse_20 rfl ?_
      refine k_iload_n C 23 3 rfl rfl dX8_giveUse_22 rfl ?_
      refine k_iload_n C 24 4 rfl rfl dX8_giveUse_23 rfl ?_
      refine k_iload C 26 5  rfl dX8_giveUse_24 rfl ?_
      refine k_callVI C 29 (As := [.int a, .int b, .int c]) (st := []) (47 + (2 * w + u)) (lt105_law (la_lt hw (by omega))) (ce_law g _ (la_lt hw (by omega))) rfl rfl mwX8_37 vlX3_workOut (qX3_workOut l g M (la_lt hw hu) (n := n) hL.1 hL.2.1 (of_decide_eq_true d17) (hL.2.2 (of_decide_eq_true d17)) a b c) mlX3_workOut (by decide) (by decide) rfl rfl (Nat.le_of_ble_eq_true rfl) dX8_giveUse_26 rfl (fun r M26 h26 => ?_)
      obtain ⟨hr, hs26⟩ := h26
      subst hr
      refine k_goto C 35 dX8_giveUse_29 (by decide) ?_
      refine k_iconst C 36 (v := 1) (by decide) dX8_giveUse_35 rfl ?_
      refine k_bipush C 38 (v := 99) (by decide) dX8_giveUse_36 rfl ?_
      refine k_callNE C 41 (As := [.int (pVal (M (52 + (2 * w + u))) n (vv a b c)), .int 1, .int 99]) (st := []) nwX8_41 skX9_hold (qX9_hold l g M26 (pVal (M (52 + (2 * w + u))) n (vv a b c)) 1 99 (by decide)) mlX9_hold (by decide) (by decide) rfl rfl (Nat.le_of_ble_eq_true rfl) dX8_giveUse_38 rfl ?_
      refine k_ret C rfl dX8_giveUse_41 ?_
      exact ⟨by unfold pGive; rw [if_pos (show u = 0 by omega), if_pos (of_decide_eq_true d17)], hs26⟩
set_option maxHeartbeats 4000000 in
set_option maxRecDepth 20000 in
theorem qX8_senseOf (l : Launch) (g : GT) (M : Mem) {n : Nat} (hL : lawOk M 1 n) {k : Nat} (hk : k < 37) : CtrI l g yX8_senseOf cX8_senseOf 2 (some .int) 4 [.ref (ga g 43), .ref (ga g k)] M (fun r M1 => r = pGive 1 n (M 53) (M k 2) (M k 3) (pDepth (M k)) ∧ Sc lawS M M1) := by
  refine ctrI_of (by decide +kernel) (Nat.le_of_ble_eq_true rfl) ?_
  intro pP eE RR sS mI aG bB mE cD C
  refine k_lo (lo' := [(0, .ref (ga g 43)), (1, .ref (ga g k))]) rfl ?_
  refine k_aload_n C 1 0 rfl rfl dX8_senseOf_0 rfl ?_
  refine k_iconst C 2 (v := 1) (by decide) dX8_senseOf_1 rfl ?_
  refine k_aload_n C 3 1 rfl rfl dX8_senseOf_2 rfl ?_
  refine k_get C 6 flX8_44 k (lt105_fu hk) (v := .int ((M) k 2)) (ce_fu g _ hk) rfl dX8_senseOf_3 rfl ?_
  refine k_aload_n C 7 1 rfl rfl dX8_senseOf_6 rfl ?_
  refine k_get C 10 flX8_50 k (lt105_fu hk) (v := .int ((M) k 3)) (ce_fu g _ hk) rfl dX8_senseOf_7 rfl ?_
  refine k_aload_n C 11 1 rfl rfl dX8_senseOf_10 rfl ?_
  refine k_callVE C 14 (As := []) (st := [.int (M k 3), .int (M k 2), .int 1, .ref (ga g 43)]) k (lt105_fu hk) (ce_fu g _ hk) rfl rfl mwX8_53 vlX2_depth (qX2_depth l g M hk) mlX2_depth (by decide) (by decide) rfl rfl (Nat.le_of_ble_eq_true rfl) dX8_senseOf_11 rfl ?_
  refine k_callVI C 17 (As := [.int 1, .int (M k 2), .int (M k 3), .int (pDepth (M k))]) (st := []) 43 (by decide) (ce_wld g _ (show 0 < 2 by decide)) rfl rfl mwX8_57 vlX8_giveUse (qX8_giveUse l g M (show 0 < 2 by decide) (show 1 < 2 by decide) (n := n) hL (M k 2) (M k 3) (pDepth (M k))) mlX8_giveUse (by decide) (by decide) rfl rfl (Nat.le_of_ble_eq_true rfl) dX8_senseOf_14 rfl (fun r1 M1 h1 => ?_)
  obtain ⟨hr1, hs1⟩ := h1
  refine k_ret C rfl dX8_senseOf_17 ?_
  exact ⟨hr1, hs1⟩
set_option maxHeartbeats 4000000 in
set_option maxRecDepth 20000 in
theorem qX8_copyFrom_1 (l : Launch) (g : GT) (M : Mem) {n n0 n1 t u : Nat} (hn : M 37 1 = nI n) (h12 : n ≤ 12) (hcov : ∀ i, i < n → M (12 * 0 + i) 6 = 0 ∨ M (12 * 0 + i) 6 = 1) (h0 : M 47 1 = nI n0) (h600 : n0 ≤ 60) (h1 : M 48 1 = nI n1) (h601 : n1 ≤ 60) (ht : M 43 3 = nI t) (h60 : t ≤ 60) (hfit : ∀ i, i < t → fits .byte (.int (M 62 i)) = true) (hu : M 43 5 = nI u) (h24 : u ≤ 24) : CtrV l g yX8_copyFrom cX8_copyFrom 3 2 [.ref (ga g 44), .ref (ga g 43)] M (fun M1 => cpW M M1 1 0 n n0 n1 t u) := by
  refine ctrV_of (by decide +kernel) (Nat.le_of_ble_eq_true rfl) ?_
  intro pP eE RR sS mI aG bB mE cD C
  refine k_lo (lo' := [(0, .ref (ga g 44)), (1, .ref (ga g 43))]) rfl ?_
  refine k_aload_n C 1 0 rfl rfl dX8_copyFrom_0 rfl ?_
  refine k_get C 4 flX8_12 44 (by decide) (v := .ref (ga g 38)) (ce_wld g _ (show 1 < 2 by decide)) rfl dX8_copyFrom_1 rfl ?_
  refine k_aload_n C 5 1 rfl rfl dX8_copyFrom_4 rfl ?_
  refine k_get C 8 flX8_12 43 (by decide) (v := .ref (ga g 37)) (ce_wld g _ (show 0 < 2 by decide)) rfl dX8_copyFrom_5 rfl ?_
  refine k_callVV C 11 (As := [.ref (ga g 37)]) (st := []) 38 (by decide) (ce_fld g _ (show 1 < 3 by decide)) rfl rfl mwX8_61 vlX1_copyFrom (qX1_copyFrom l g M (fi := 1) (fo := 0) (by decide) (by decide) (by decide) (n := n) hn h12 hcov) mlX1_copyFrom (by decide) (by decide) rfl rfl (Nat.le_of_ble_eq_true rfl) dX8_copyFrom_8 rfl (fun M1 hF => ?_)
  refine k_iconst C 12 (v := 0) (by decide) dX8_copyFrom_11 rfl ?_
  refine k_istore_n C 13 [(2, .int 0), (0, .ref (ga g 44)), (1, .ref (ga g 43))] rfl (by decide) rfl dX8_copyFrom_12 rfl ?_
  refine k_iload_n C 14 0 rfl rfl dX8_copyFrom_13 rfl ?_
  refine k_iconst C 15 (v := 2) (by decide) dX8_copyFrom_14 rfl ?_
  refine k_icmp_ge C 39 18 dX8_copyFrom_15 (by decide) rfl (fun c15 => ?_) (fun d15 => ?_)
  · skip
    exact absurd c15 (by decide)
  · skip
    refine k_aload_n C 19 1 rfl rfl dX8_copyFrom_18 rfl ?_
    refine k_get C 22 flX8_20 44 (by decide) (v := .ref (ga g 46)) (ce_wld g _ (show 1 < 2 by decide)) rfl dX8_copyFrom_19 rfl ?_
    refine k_iload_n C 23 0 rfl rfl dX8_copyFrom_22 rfl ?_
    refine k_aald C 24 46 0 4 (by decide) (ce_la g _ (show 1 < 2 by decide)) rfl (by decide) rfl (by omega) dX8_copyFrom_23 rfl ?_
    refine k_st (st' := [.ref (ga g 49)]) rfl ?_
    refine k_aload_n C 25 2 rfl rfl dX8_copyFrom_24 rfl ?_
    refine k_get C 28 flX8_20 43 (by decide) (v := .ref (ga g 45)) (ce_wld g _ (show 0 < 2 by decide)) rfl dX8_copyFrom_25 rfl ?_
    refine k_iload_n C 29 0 rfl rfl dX8_copyFrom_28 rfl ?_
    refine k_aald C 30 45 0 4 (by decide) (ce_la g _ (show 0 < 2 by decide)) rfl (by decide) rfl (by omega) dX8_copyFrom_29 rfl ?_
    refine k_st (st' := [.ref (ga g 47), .ref (ga g 49)]) (by simp only [Nat.mul_zero, Nat.zero_add]) ?_
    refine k_callVU C 33 (As := [.ref (ga g 47)]) (st := []) 49 (by decide) (ce_law g _ (show 2 < 5 by decide)) rfl rfl mwX8_65 vlX3_copyFrom (qX3_copyFrom l g M1 (j := 2) (by decide) (j2 := 0) (by decide) (n := n0) (by rw [hF.2.2 _ (by decide) (by decide)]; exact h0) h600) mlX3_copyFrom (by decide) (by decide) rfl rfl (Nat.le_of_ble_eq_true rfl) dX8_copyFrom_30 rfl ?_
    refine k_iinc C 36 (1) 0 [(2, .int 1), (0, .ref (ga g 44)), (1, .ref (ga g 43))] rfl (by decide) (by decide) rfl dX8_copyFrom_33 rfl ?_
    refine k_goto C 13 dX8_copyFrom_36 (by decide) ?_
    refine k_iload_n C 14 0 rfl rfl dX8_copyFrom_13 rfl ?_
    refine k_iconst C 15 (v := 2) (by decide) dX8_copyFrom_14 rfl ?_
    refine k_icmp_ge C 39 18 dX8_copyFrom_15 (by decide) rfl (fun c15x => ?_) (fun d15x => ?_)
    · skip
      exact absurd c15x (by decide)
    · skip
      refine k_aload_n C 19 1 rfl rfl dX8_copyFrom_18 rfl ?_
      refine k_get C 22 flX8_20 44 (by decide) (v := .ref (ga g 46)) (ce_wld g _ (show 1 < 2 by decide)) rfl dX8_copyFrom_19 rfl ?_
      refine k_iload_n C 23 0 rfl rfl dX8_copyFrom_22 rfl ?_
      refine k_aald C 24 46 1 4 (by decide) (ce_la g _ (show 1 < 2 by decide)) rfl (by decide) rfl (by omega) dX8_copyFrom_23 rfl ?_
      refine k_st (st' := [.ref (ga g 50)]) rfl ?_
      refine k_aload_n C 25 2 rfl rfl dX8_copyFrom_24 rfl ?_
      refine k_get C 28 flX8_20 43 (by decide) (v := .ref (ga g 45)) (ce_wld g _ (show 0 < 2 by decide)) rfl dX8_copyFrom_25 rfl ?_
      refine k_iload_n C 29 0 rfl rfl dX8_copyFrom_28 rfl ?_
      refine k_aald C 30 45 1 4 (by decide) (ce_la g _ (show 0 < 2 by decide)) rfl (by decide) rfl (by omega) dX8_copyFrom_29 rfl ?_
      refine k_st (st' := [.ref (ga g 48), .ref (ga g 50)]) (by simp only [Nat.mul_zero, Nat.zero_add]) ?_
      refine k_callVU C 33 (As := [.ref (ga g 48)]) (st := []) 50 (by decide) (ce_law g _ (show 3 < 5 by decide)) rfl rfl mwX8_65 vlX3_copyFrom (qX3_copyFrom l g (mu (mrow M1 54 (va_cpy (M1 52) (M1 54) 0 0 n0)) 49 1 (nI n0)) (j := 3) (by decide) (j2 := 1) (by decide) (n := n1) (by simp only [mu_n _ _ _ (show 48 ≠ 49 by decide), mrow_n _ _ (show 48 ≠ 54 by decide)]; rw [hF.2.2 _ (by decide) (by decide)]; exact h1) h601) mlX3_copyFrom (by decide) (by decide) rfl rfl (Nat.le_of_ble_eq_true rfl) dX8_copyFrom_30 rfl ?_
      refine k_iinc C 36 (2) 0 [(2, .int 2), (0, .ref (ga g 44)), (1, .ref (ga g 43))] rfl (by decide) (by decide) rfl dX8_copyFrom_33 rfl ?_
      refine k_goto C 13 dX8_copyFrom_36 (by decide) ?_
      refine k_iload_n C 14 0 rfl rfl dX8_copyFrom_13 rfl ?_
      refine k_iconst C 15 (v := 2) (by decide) dX8_copyFrom_14 rfl ?_
      refine k_icmp_ge C 39 18 dX8_copyFrom_15 (by decide) rfl (fun c15xx => ?_) (fun d15xx => ?_)
      · skip
        refine k_aload_n C 40 2 rfl rfl dX8_copyFrom_39 rfl ?_
        refine k_get C 43 flX8_24 43 (by decide) (v := .ref (ga g 62)) (ce_wld g _ (show 0 < 2 by decide)) rfl dX8_copyFrom_40 rfl ?_
        refine k_iconst C 44 (v := 0) (by decide) dX8_copyFrom_43 rfl ?_
        refine k_aload_n C 45 1 rfl rfl dX8_copyFrom_44 rfl ?_
        refine k_get C 48 flX8_24 44 (by decide) (v := .ref (ga g 63)) (ce_wld g _ (show 1 < 2 by decide)) rfl dX8_copyFrom_45 rfl ?_
        refine k_iconst C 49 (v := 0) (by decide) dX8_copyFrom_48 rfl ?_
        refine k_aload_n C 50 2 rfl rfl dX8_copyFrom_49 rfl ?_
        refine k_get C 53 flX8_68 43 (by decide) (v := .int ((mu (mrow (mu (mrow M1 54 (va_cpy (M1 52) (M1 54) 0 0 n0)) 49 1 (nI n0)) 55 (va_cpy ((mu (mrow M1 54 (va_cpy (M1 52) (M1 54) 0 0 n0)) 49 1 (nI n0)) 53) ((mu (mrow M1 54 (va_cpy (M1 52) (M1 54) 0 0 n0)) 49 1 (nI n0)) 55) 0 0 n1)) 50 1 (nI n1)) 43 3)) (ce_wld g _ (show 0 < 2 by decide)) rfl dX8_copyFrom_50 rfl ?_
        refine k_teq (y := nI t) (by simp only [mu_n _ _ _ (show 43 ≠ 50 by decide), mu_n _ _ _ (show 43 ≠ 49 by decide), mrow_n _ _ (show 43 ≠ 55 by decide), mrow_n _ _ (show 43 ≠ 54 by decide)]; rw [hF.2.2 _ (by decide) (by decide)]; exact ht) ?_
        refine k_copy C 56 62 63 0 0 t 1 mwX8_71 (by decide) (by decide) (ce_tp g (show 0 < 2 by decide)) (ce_tp g (show 1 < 2 by decide)) rfl rfl rfl rfl rfl (by omega) (by omega) (by decide) (by decide) (fun i hi => by rw [Nat.zero_add]; simp only [mu_n _ _ _ (show 62 ≠ 50 by decide), mu_n _ _ _ (show 62 ≠ 49 by decide), mrow_n _ _ (show 62 ≠ 55 by decide), mrow_n _ _ (show 62 ≠ 54 by decide)]; rw [hF.2.2 _ (by decide) (by decide)]; exact hfit i hi) (Nat.le_of_ble_eq_true rfl) dX8_copyFrom_53 rfl ?_
        refine k_aload_n C 57 1 rfl rfl dX8_copyFrom_56 rfl ?_
        refine k_aload_n C 58 2 rfl rfl dX8_copyFrom_57 rfl ?_
        refine k_get C 61 flX8_68 43 (by decide) (v := .int ((mrow (mu (mrow (mu (mrow M1 54 (va_cpy (M1 52) (M1 54) 0 0 n0)) 49 1 (nI n0)) 55 (va_cpy ((mu (mrow M1 54 (va_cpy (M1 52) (M1 54) 0 0 n0)) 49 1 (nI n0)) 53) ((mu (mrow M1 54 (va_cpy (M1 52) (M1 54) 0 0 n0)) 49 1 (nI n0)) 55) 0 0 n1)) 50 1 (nI n1)) 63 (va_cpy ((mu (mrow (mu (mrow M1 54 (va_cpy (M1 52) (M1 54) 0 0 n0)) 49 1 (nI n0)) 55 (va_cpy ((mu (mrow M1 54 (va_cpy (M1 52) (M1 54) 0 0 n0)) 49 1 (nI n0)) 53) ((mu (mrow M1 54 (va_cpy (M1 52) (M1 54) 0 0 n0)) 49 1 (nI n0)) 55) 0 0 n1)) 50 1 (nI n1)) 62) ((mu (mrow (mu (mrow M1 54 (va_cpy (M1 52) (M1 54) 0 0 n0)) 49 1 (nI n0)) 55 (va_cpy ((mu (mrow M1 54 (va_cpy (M1 52) (M1 54) 0 0 n0)) 49 1 (nI n0)) 53) ((mu (mrow M1 54 (va_cpy (M1 52) (M1 54) 0 0 n0)) 49 1 (nI n0)) 55) 0 0 n1)) 50 1 (nI n1)) 63) 0 0 t)) 43 3)) (ce_wld g _ (show 0 < 2 by decide)) rfl dX8_copyFrom_58 rfl ?_
        refine k_teq (y := nI t) (by rw [mrow_n _ _ (show 43 ≠ 63 by decide)]; simp only [mu_n _ _ _ (show 43 ≠ 50 by decide), mu_n _ _ _ (show 43 ≠ 49 by decide), mrow_n _ _ (show 43 ≠ 55 by decide), mrow_n _ _ (show 43 ≠ 54 by decide)]; rw [hF.2.2 _ (by decide) (by decide)]; exact ht) ?_
        refine k_put C 64 flX8_68 plX8 44 (by decide) (ce_wld g _ (show 1 < 2 by decide)) (ce_wld g _ (show 1 < 2 by decide)) (Nat.le_of_ble_eq_true rfl) rfl rfl rfl dX8_copyFrom_61 rfl ?_
        refine k_aload_n C 65 2 rfl rfl dX8_copyFrom_64 rfl ?_
        refine k_get C 68 flX8_28 43 (by decide) (v := .ref (ga g 65)) (ce_wld g _ (show 0 < 2 by decide)) rfl dX8_copyFrom_65 rfl ?_
        refine k_iconst C 69 (v := 0) (by decide) dX8_copyFrom_68 rfl ?_
        refine k_aload_n C 70 1 rfl rfl dX8_copyFrom_69 rfl ?_
        refine k_get C 73 flX8_28 44 (by decide) (v := .ref (ga g 66)) (ce_wld g _ (show 1 < 2 by decide)) rfl dX8_copyFrom_70 rfl ?_
        refine k_iconst C 74 (v := 0) (by decide) dX8_copyFrom_73 rfl ?_
        refine k_aload_n C 75 2 rfl rfl dX8_copyFrom_74 rfl ?_
        refine k_get C 78 flX8_77 43 (by decide) (v := .int ((mu (mrow (mu (mrow (mu (mrow M1 54 (va_cpy (M1 52) (M1 54) 0 0 n0)) 49 1 (nI n0)) 55 (va_cpy ((mu (mrow M1 54 (va_cpy (M1 52) (M1 54) 0 0 n0)) 49 1 (nI n0)) 53) ((mu (mrow M1 54 (va_cpy (M1 52) (M1 54) 0 0 n0)) 49 1 (nI n0)) 55) 0 0 n1)) 50 1 (nI n1)) 63 (va_cpy ((mu (mrow (mu (mrow M1 54 (va_cpy (M1 52) (M1 54) 0 0 n0)) 49 1 (nI n0)) 55 (va_cpy ((mu (mrow M1 54 (va_cpy (M1 52) (M1 54) 0 0 n0)) 49 1 (nI n0)) 53) ((mu (mrow M1 54 (va_cpy (M1 52) (M1 54) 0 0 n0)) 49 1 (nI n0)) 55) 0 0 n1)) 50 1 (nI n1)) 62) ((mu (mrow (mu (mrow M1 54 (va_cpy (M1 52) (M1 54) 0 0 n0)) 49 1 (nI n0)) 55 (va_cpy ((mu (mrow M1 54 (va_cpy (M1 52) (M1 54) 0 0 n0)) 49 1 (nI n0)) 53) ((mu (mrow M1 54 (va_cpy (M1 52) (M1 54) 0 0 n0)) 49 1 (nI n0)) 55) 0 0 n1)) 50 1 (nI n1)) 63) 0 0 t)) 44 3 (nI t)) 43 5)) (ce_wld g _ (show 0 < 2 by decide)) rfl dX8_copyFrom_75 rfl ?_
        refine k_teq (show (mu (mrow (mu (mrow (mu (mrow M1 54 (va_cpy (M1 52) (M1 54) 0 0 n0)) 49 1 (nI n0)) 55 (va_cpy ((mu (mrow M1 54 (va_cpy (M1 52) (M1 54) 0 0 n0)) 49 1 (nI n0)) 53) ((mu (mrow M1 54 (va_cpy (M1 52) (M1 54) 0 0 n0)) 49 1 (nI n0)) 55) 0 0 n1)) 50 1 (nI n1)) 63 (va_cpy ((mu (mrow (mu (mrow M1 54 (va_cpy (M1 52) (M1 54) 0 0 n0)) 49 1 (nI n0)) 55 (va_cpy ((mu (mrow M1 54 (va_cpy (M1 52) (M1 54) 0 0 n0)) 49 1 (nI n0)) 53) ((mu (mrow M1 54 (va_cpy (M1 52) (M1 54) 0 0 n0)) 49 1 (nI n0)) 55) 0 0 n1)) 50 1 (nI n1)) 62) ((mu (mrow (mu (mrow M1 54 (va_cpy (M1 52) (M1 54) 0 0 n0)) 49 1 (nI n0)) 55 (va_cpy ((mu (mrow M1 54 (va_cpy (M1 52) (M1 54) 0 0 n0)) 49 1 (nI n0)) 53) ((mu (mrow M1 54 (va_cpy (M1 52) (M1 54) 0 0 n0)) 49 1 (nI n0)) 55) 0 0 n1)) 50 1 (nI n1)) 63) 0 0 t)) 44 3 (nI t)) 43 5 = (mrow (mu (mrow (mu (mrow M1 54 (va_cpy (M1 52) (M1 54) 0 0 n0)) 49 1 (nI n0)) 55 (va_cpy ((mu (mrow M1 54 (va_cpy (M1 52) (M1 54) 0 0 n0)) 49 1 (nI n0)) 53) ((mu (mrow M1 54 (va_cpy (M1 52) (M1 54) 0 0 n0)) 49 1 (nI n0)) 55) 0 0 n1)) 50 1 (nI n1)) 63 (va_cpy ((mu (mrow (mu (mrow M1 54 (va_cpy (M1 52) (M1 54) 0 0 n0)) 49 1 (nI n0)) 55 (va_cpy ((mu (mrow M1 54 (va_cpy (M1 52) (M1 54) 0 0 n0)) 49 1 (nI n0)) 53) ((mu (mrow M1 54 (va_cpy (M1 52) (M1 54) 0 0 n0)) 49 1 (nI n0)) 55) 0 0 n1)) 50 1 (nI n1)) 62) ((mu (mrow (mu (mrow M1 54 (va_cpy (M1 52) (M1 54) 0 0 n0)) 49 1 (nI n0)) 55 (va_cpy ((mu (mrow M1 54 (va_cpy (M1 52) (M1 54) 0 0 n0)) 49 1 (nI n0)) 53) ((mu (mrow M1 54 (va_cpy (M1 52) (M1 54) 0 0 n0)) 49 1 (nI n0)) 55) 0 0 n1)) 50 1 (nI n1)) 63) 0 0 t)) 43 5 by simp [mu_at]) ?_
        refine k_teq (y := nI u) (by rw [mrow_n _ _ (show 43 ≠ 63 by decide)]; simp only [mu_n _ _ _ (show 43 ≠ 50 by decide), mu_n _ _ _ (show 43 ≠ 49 by decide), mrow_n _ _ (show 43 ≠ 55 by decide), mrow_n _ _ (show 43 ≠ 54 by decide)]; rw [hF.2.2 _ (by decide) (by decide)]; exact hu) ?_
        refine k_copy C 81 65 66 0 0 u 0 mwX8_71 (by decide) (by decide) (ce_wt g (show 0 < 2 by decide)) (ce_wt g (show 1 < 2 by decide)) rfl rfl rfl rfl rfl (by omega) (by omega) (by decide) (by decide) (fun _ _ => rfl) (Nat.le_of_ble_eq_true rfl) dX8_copyFrom_78 rfl ?_
        refine k_aload_n C 82 1 rfl rfl dX8_copyFrom_81 rfl ?_
        refine k_aload_n C 83 2 rfl rfl dX8_copyFrom_82 rfl ?_
        refine k_get C 86 flX8_77 43 (by decide) (v := .int ((mrow (mu (mrow (mu (mrow (mu (mrow M1 54 (va_cpy (M1 52) (M1 54) 0 0 n0)) 49 1 (nI n0)) 55 (va_cpy ((mu (mrow M1 54 (va_cpy (M1 52) (M1 54) 0 0 n0)) 49 1 (nI n0)) 53) ((mu (mrow M1 54 (va_cpy (M1 52) (M1 54) 0 0 n0)) 49 1 (nI n0)) 55) 0 0 n1)) 50 1 (nI n1)) 63 (va_cpy ((mu (mrow (mu (mrow M1 54 (va_cpy (M1 52) (M1 54) 0 0 n0)) 49 1 (nI n0)) 55 (va_cpy ((mu (mrow M1 54 (va_cpy (M1 52) (M1 54) 0 0 n0)) 49 1 (nI n0)) 53) ((mu (mrow M1 54 (va_cpy (M1 52) (M1 54) 0 0 n0)) 49 1 (nI n0)) 55) 0 0 n1)) 50 1 (nI n1)) 62) ((mu (mrow (mu (mrow M1 54 (va_cpy (M1 52) (M1 54) 0 0 n0)) 49 1 (nI n0)) 55 (va_cpy ((mu (mrow M1 54 (va_cpy (M1 52) (M1 54) 0 0 n0)) 49 1 (nI n0)) 53) ((mu (mrow M1 54 (va_cpy (M1 52) (M1 54) 0 0 n0)) 49 1 (nI n0)) 55) 0 0 n1)) 50 1 (nI n1)) 63) 0 0 t)) 44 3 (nI t)) 66 (va_cpy ((mu (mrow (mu (mrow (mu (mrow M1 54 (va_cpy (M1 52) (M1 54) 0 0 n0)) 49 1 (nI n0)) 55 (va_cpy ((mu (mrow M1 54 (va_cpy (M1 52) (M1 54) 0 0 n0)) 49 1 (nI n0)) 53) ((mu (mrow M1 54 (va_cpy (M1 52) (M1 54) 0 0 n0)) 49 1 (nI n0)) 55) 0 0 n1)) 50 1 (nI n1)) 63 (va_cpy ((mu (mrow (mu (mrow M1 54 (va_cpy (M1 52) (M1 54) 0 0 n0)) 49 1 (nI n0)) 55 (va_cpy ((mu (mrow M1 54 (va_cpy (M1 52) (M1 54) 0 0 n0)) 49 1 (nI n0)) 53) ((mu (mrow M1 54 (va_cpy (M1 52) (M1 54) 0 0 n0)) 49 1 (nI n0)) 55) 0 0 n1)) 50 1 (nI n1)) 62) ((mu (mrow (mu (mrow M1 54 (va_cpy (M1 52) (M1 54) 0 0 n0)) 49 1 (nI n0)) 55 (va_cpy ((mu (mrow M1 54 (va_cpy (M1 52) (M1 54) 0 0 n0)) 49 1 (nI n0)) 53) ((mu (mrow M1 54 (va_cpy (M1 52) (M1 54) 0 0 n0)) 49 1 (nI n0)) 55) 0 0 n1)) 50 1 (nI n1)) 63) 0 0 t)) 44 3 (nI t)) 65) ((mu (mrow (mu (mrow (mu (mrow M1 54 (va_cpy (M1 52) (M1 54) 0 0 n0)) 49 1 (nI n0)) 55 (va_cpy ((mu (mrow M1 54 (va_cpy (M1 52) (M1 54) 0 0 n0)) 49 1 (nI n0)) 53) ((mu (mrow M1 54 (va_cpy (M1 52) (M1 54) 0 0 n0)) 49 1 (nI n0)) 55) 0 0 n1)) 50 1 (nI n1)) 63 (va_cpy ((mu (mrow (mu (mrow M1 54 (va_cpy (M1 52) (M1 54) 0 0 n0)) 49 1 (nI n0)) 55 (va_cpy ((mu (mrow M1 54 (va_cpy (M1 52) (M1 54) 0 0 n0)) 49 1 (nI n0)) 53) ((mu (mrow M1 54 (va_cpy (M1 52) (M1 54) 0 0 n0)) 49 1 (nI n0)) 55) 0 0 n1)) 50 1 (nI n1)) 62) ((mu (mrow (mu (mrow M1 54 (va_cpy (M1 52) (M1 54) 0 0 n0)) 49 1 (nI n0)) 55 (va_cpy ((mu (mrow M1 54 (va_cpy (M1 52) (M1 54) 0 0 n0)) 49 1 (nI n0)) 53) ((mu (mrow M1 54 (va_cpy (M1 52) (M1 54) 0 0 n0)) 49 1 (nI n0)) 55) 0 0 n1)) 50 1 (nI n1)) 63) 0 0 t)) 44 3 (nI t)) 66) 0 0 u)) 43 5)) (ce_wld g _ (show 0 < 2 by decide)) rfl dX8_copyFrom_83 rfl ?_
        refine k_teq (y := nI u) (by rw [mrow_n _ _ (show 43 ≠ 66 by decide), mu_n _ _ _ (show 43 ≠ 44 by decide), mrow_n _ _ (show 43 ≠ 63 by decide)]; simp only [mu_n _ _ _ (show 43 ≠ 50 by decide), mu_n _ _ _ (show 43 ≠ 49 by decide), mrow_n _ _ (show 43 ≠ 55 by decide), mrow_n _ _ (show 43 ≠ 54 by decide)]; rw [hF.2.2 _ (by decide) (by decide)]; exact hu) ?_
        refine k_put C 89 flX8_77 plX8 44 (by decide) (ce_wld g _ (show 1 < 2 by decide)) (ce_wld g _ (show 1 < 2 by decide)) (Nat.le_of_ble_eq_true rfl) rfl rfl rfl dX8_copyFrom_86 rfl ?_
        refine k_vret C dX8_copyFrom_89 ?_
        exact cpW_of_1 hn h12 h0 h600 h1 h601 ht h60 hu h24 hF
      · skip
        exact absurd d15xx (by decide)
set_option maxHeartbeats 4000000 in
set_option maxRecDepth 20000 in
theorem qX8_copyFrom_0 (l : Launch) (g : GT) (M : Mem) {n n0 n1 t u : Nat} (hn : M 38 1 = nI n) (h12 : n ≤ 12) (hcov : ∀ i, i < n → M (12 * 1 + i) 6 = 0 ∨ M (12 * 1 + i) 6 = 1) (h0 : M 49 1 = nI n0) (h600 : n0 ≤ 60) (h1 : M 50 1 = nI n1) (h601 : n1 ≤ 60) (ht : M 44 3 = nI t) (h60 : t ≤ 60) (hfit : ∀ i, i < t → fits .byte (.int (M 63 i)) = true) (hu : M 44 5 = nI u) (h24 : u ≤ 24) : CtrV l g yX8_copyFrom cX8_copyFrom 3 2 [.ref (ga g 43), .ref (ga g 44)] M (fun M1 => cpW M M1 0 1 n n0 n1 t u) := by
  refine ctrV_of (by decide +kernel) (Nat.le_of_ble_eq_true rfl) ?_
  intro pP eE RR sS mI aG bB mE cD C
  refine k_lo (lo' := [(0, .ref (ga g 43)), (1, .ref (ga g 44))]) rfl ?_
  refine k_aload_n C 1 0 rfl rfl dX8_copyFrom_0 rfl ?_
  refine k_get C 4 flX8_12 43 (by decide) (v := .ref (ga g 37)) (ce_wld g _ (show 0 < 2 by decide)) rfl dX8_copyFrom_1 rfl ?_
  refine k_aload_n C 5 1 rfl rfl dX8_copyFrom_4 rfl ?_
  refine k_get C 8 flX8_12 44 (by decide) (v := .ref (ga g 38)) (ce_wld g _ (show 1 < 2 by decide)) rfl dX8_copyFrom_5 rfl ?_
  refine k_callVV C 11 (As := [.ref (ga g 38)]) (st := []) 37 (by decide) (ce_fld g _ (show 0 < 3 by decide)) rfl rfl mwX8_61 vlX1_copyFrom (qX1_copyFrom l g M (fi := 0) (fo := 1) (by decide) (by decide) (by decide) (n := n) hn h12 hcov) mlX1_copyFrom (by decide) (by decide) rfl rfl (Nat.le_of_ble_eq_true rfl) dX8_copyFrom_8 rfl (fun M1 hF => ?_)
  refine k_iconst C 12 (v := 0) (by decide) dX8_copyFrom_11 rfl ?_
  refine k_istore_n C 13 [(2, .int 0), (0, .ref (ga g 43)), (1, .ref (ga g 44))] rfl (by decide) rfl dX8_copyFrom_12 rfl ?_
  refine k_iload_n C 14 0 rfl rfl dX8_copyFrom_13 rfl ?_
  refine k_iconst C 15 (v := 2) (by decide) dX8_copyFrom_14 rfl ?_
  refine k_icmp_ge C 39 18 dX8_copyFrom_15 (by decide) rfl (fun c15 => ?_) (fun d15 => ?_)
  · skip
    exact absurd c15 (by decide)
  · skip
    refine k_aload_n C 19 1 rfl rfl dX8_copyFrom_18 rfl ?_
    refine k_get C 22 flX8_20 43 (by decide) (v := .ref (ga g 45)) (ce_wld g _ (show 0 < 2 by decide)) rfl dX8_copyFrom_19 rfl ?_
    refine k_iload_n C 23 0 rfl rfl dX8_copyFrom_22 rfl ?_
    refine k_aald C 24 45 0 4 (by decide) (ce_la g _ (show 0 < 2 by decide)) rfl (by decide) rfl (by omega) dX8_copyFrom_23 rfl ?_
    refine k_st (st' := [.ref (ga g 47)]) (by simp only [Nat.mul_zero, Nat.zero_add]) ?_
    refine k_aload_n C 25 2 rfl rfl dX8_copyFrom_24 rfl ?_
    refine k_get C 28 flX8_20 44 (by decide) (v := .ref (ga g 46)) (ce_wld g _ (show 1 < 2 by decide)) rfl dX8_copyFrom_25 rfl ?_
    refine k_iload_n C 29 0 rfl rfl dX8_copyFrom_28 rfl ?_
    refine k_aald C 30 46 0 4 (by decide) (ce_la g _ (show 1 < 2 by decide)) rfl (by decide) rfl (by omega) dX8_copyFrom_29 rfl ?_
    refine k_st (st' := [.ref (ga g 49), .ref (ga g 47)]) rfl ?_
    refine k_callVU C 33 (As := [.ref (ga g 49)]) (st := []) 47 (by decide) (ce_law g _ (show 0 < 5 by decide)) rfl rfl mwX8_65 vlX3_copyFrom (qX3_copyFrom l g M1 (j := 0) (by decide) (j2 := 2) (by decide) (n := n0) (by rw [hF.2.2 _ (by decide) (by decide)]; exact h0) h600) mlX3_copyFrom (by decide) (by decide) rfl rfl (Nat.le_of_ble_eq_true rfl) dX8_copyFrom_30 rfl ?_
    refine k_iinc C 36 (1) 0 [(2, .int 1), (0, .ref (ga g 43)), (1, .ref (ga g 44))] rfl (by decide) (by decide) rfl dX8_copyFrom_33 rfl ?_
    refine k_goto C 13 dX8_copyFrom_36 (by decide) ?_
    refine k_iload_n C 14 0 rfl rfl dX8_copyFrom_13 rfl ?_
    refine k_iconst C 15 (v := 2) (by decide) dX8_copyFrom_14 rfl ?_
    refine k_icmp_ge C 39 18 dX8_copyFrom_15 (by decide) rfl (fun c15x => ?_) (fun d15x => ?_)
    · skip
      exact absurd c15x (by decide)
    · skip
      refine k_aload_n C 19 1 rfl rfl dX8_copyFrom_18 rfl ?_
      refine k_get C 22 flX8_20 43 (by decide) (v := .ref (ga g 45)) (ce_wld g _ (show 0 < 2 by decide)) rfl dX8_copyFrom_19 rfl ?_
      refine k_iload_n C 23 0 rfl rfl dX8_copyFrom_22 rfl ?_
      refine k_aald C 24 45 1 4 (by decide) (ce_la g _ (show 0 < 2 by decide)) rfl (by decide) rfl (by omega) dX8_copyFrom_23 rfl ?_
      refine k_st (st' := [.ref (ga g 48)]) (by simp only [Nat.mul_zero, Nat.zero_add]) ?_
      refine k_aload_n C 25 2 rfl rfl dX8_copyFrom_24 rfl ?_
      refine k_get C 28 flX8_20 44 (by decide) (v := .ref (ga g 46)) (ce_wld g _ (show 1 < 2 by decide)) rfl dX8_copyFrom_25 rfl ?_
      refine k_iload_n C 29 0 rfl rfl dX8_copyFrom_28 rfl ?_
      refine k_aald C 30 46 1 4 (by decide) (ce_la g _ (show 1 < 2 by decide)) rfl (by decide) rfl (by omega) dX8_copyFrom_29 rfl ?_
      refine k_st (st' := [.ref (ga g 50), .ref (ga g 48)]) rfl ?_
      refine k_callVU C 33 (As := [.ref (ga g 50)]) (st := []) 48 (by decide) (ce_law g _ (show 1 < 5 by decide)) rfl rfl mwX8_65 vlX3_copyFrom (qX3_copyFrom l g (mu (mrow M1 52 (va_cpy (M1 54) (M1 52) 0 0 n0)) 47 1 (nI n0)) (j := 1) (by decide) (j2 := 3) (by decide) (n := n1) (by simp only [mu_n _ _ _ (show 50 ≠ 47 by decide), mrow_n _ _ (show 50 ≠ 52 by decide)]; rw [hF.2.2 _ (by decide) (by decide)]; exact h1) h601) mlX3_copyFrom (by decide) (by decide) rfl rfl (Nat.le_of_ble_eq_true rfl) dX8_copyFrom_30 rfl ?_
      refine k_iinc C 36 (2) 0 [(2, .int 2), (0, .ref (ga g 43)), (1, .ref (ga g 44))] rfl (by decide) (by decide) rfl dX8_copyFrom_33 rfl ?_
      refine k_goto C 13 dX8_copyFrom_36 (by decide) ?_
      refine k_iload_n C 14 0 rfl rfl dX8_copyFrom_13 rfl ?_
      refine k_iconst C 15 (v := 2) (by decide) dX8_copyFrom_14 rfl ?_
      refine k_icmp_ge C 39 18 dX8_copyFrom_15 (by decide) rfl (fun c15xx => ?_) (fun d15xx => ?_)
      · skip
        refine k_aload_n C 40 2 rfl rfl dX8_copyFrom_39 rfl ?_
        refine k_get C 43 flX8_24 44 (by decide) (v := .ref (ga g 63)) (ce_wld g _ (show 1 < 2 by decide)) rfl dX8_copyFrom_40 rfl ?_
        refine k_iconst C 44 (v := 0) (by decide) dX8_copyFrom_43 rfl ?_
        refine k_aload_n C 45 1 rfl rfl dX8_copyFrom_44 rfl ?_
        refine k_get C 48 flX8_24 43 (by decide) (v := .ref (ga g 62)) (ce_wld g _ (show 0 < 2 by decide)) rfl dX8_copyFrom_45 rfl ?_
        refine k_iconst C 49 (v := 0) (by decide) dX8_copyFrom_48 rfl ?_
        refine k_aload_n C 50 2 rfl rfl dX8_copyFrom_49 rfl ?_
        refine k_get C 53 flX8_68 44 (by decide) (v := .int ((mu (mrow (mu (mrow M1 52 (va_cpy (M1 54) (M1 52) 0 0 n0)) 47 1 (nI n0)) 53 (va_cpy ((mu (mrow M1 52 (va_cpy (M1 54) (M1 52) 0 0 n0)) 47 1 (nI n0)) 55) ((mu (mrow M1 52 (va_cpy (M1 54) (M1 52) 0 0 n0)) 47 1 (nI n0)) 53) 0 0 n1)) 48 1 (nI n1)) 44 3)) (ce_wld g _ (show 1 < 2 by decide)) rfl dX8_copyFrom_50 rfl ?_
        refine k_teq (y := nI t) (by simp only [mu_n _ _ _ (show 44 ≠ 48 by decide), mu_n _ _ _ (show 44 ≠ 47 by decide), mrow_n _ _ (show 44 ≠ 53 by decide), mrow_n _ _ (show 44 ≠ 52 by decide)]; rw [hF.2.2 _ (by decide) (by decide)]; exact ht) ?_
        refine k_copy C 56 63 62 0 0 t 1 mwX8_71 (by decide) (by decide) (ce_tp g (show 1 < 2 by decide)) (ce_tp g (show 0 < 2 by decide)) rfl rfl rfl rfl rfl (by omega) (by omega) (by decide) (by decide) (fun i hi => by rw [Nat.zero_add]; simp only [mu_n _ _ _ (show 63 ≠ 48 by decide), mu_n _ _ _ (show 63 ≠ 47 by decide), mrow_n _ _ (show 63 ≠ 53 by decide), mrow_n _ _ (show 63 ≠ 52 by decide)]; rw [hF.2.2 _ (by decide) (by decide)]; exact hfit i hi) (Nat.le_of_ble_eq_true rfl) dX8_copyFrom_53 rfl ?_
        refine k_aload_n C 57 1 rfl rfl dX8_copyFrom_56 rfl ?_
        refine k_aload_n C 58 2 rfl rfl dX8_copyFrom_57 rfl ?_
        refine k_get C 61 flX8_68 44 (by decide) (v := .int ((mrow (mu (mrow (mu (mrow M1 52 (va_cpy (M1 54) (M1 52) 0 0 n0)) 47 1 (nI n0)) 53 (va_cpy ((mu (mrow M1 52 (va_cpy (M1 54) (M1 52) 0 0 n0)) 47 1 (nI n0)) 55) ((mu (mrow M1 52 (va_cpy (M1 54) (M1 52) 0 0 n0)) 47 1 (nI n0)) 53) 0 0 n1)) 48 1 (nI n1)) 62 (va_cpy ((mu (mrow (mu (mrow M1 52 (va_cpy (M1 54) (M1 52) 0 0 n0)) 47 1 (nI n0)) 53 (va_cpy ((mu (mrow M1 52 (va_cpy (M1 54) (M1 52) 0 0 n0)) 47 1 (nI n0)) 55) ((mu (mrow M1 52 (va_cpy (M1 54) (M1 52) 0 0 n0)) 47 1 (nI n0)) 53) 0 0 n1)) 48 1 (nI n1)) 63) ((mu (mrow (mu (mrow M1 52 (va_cpy (M1 54) (M1 52) 0 0 n0)) 47 1 (nI n0)) 53 (va_cpy ((mu (mrow M1 52 (va_cpy (M1 54) (M1 52) 0 0 n0)) 47 1 (nI n0)) 55) ((mu (mrow M1 52 (va_cpy (M1 54) (M1 52) 0 0 n0)) 47 1 (nI n0)) 53) 0 0 n1)) 48 1 (nI n1)) 62) 0 0 t)) 44 3)) (ce_wld g _ (show 1 < 2 by decide)) rfl dX8_copyFrom_58 rfl ?_
        refine k_teq (y := nI t) (by rw [mrow_n _ _ (show 44 ≠ 62 by decide)]; simp only [mu_n _ _ _ (show 44 ≠ 48 by decide), mu_n _ _ _ (show 44 ≠ 47 by decide), mrow_n _ _ (show 44 ≠ 53 by decide), mrow_n _ _ (show 44 ≠ 52 by decide)]; rw [hF.2.2 _ (by decide) (by decide)]; exact ht) ?_
        refine k_put C 64 flX8_68 plX8 43 (by decide) (ce_wld g _ (show 0 < 2 by decide)) (ce_wld g _ (show 0 < 2 by decide)) (Nat.le_of_ble_eq_true rfl) rfl rfl rfl dX8_copyFrom_61 rfl ?_
        refine k_aload_n C 65 2 rfl rfl dX8_copyFrom_64 rfl ?_
        refine k_get C 68 flX8_28 44 (by decide) (v := .ref (ga g 66)) (ce_wld g _ (show 1 < 2 by decide)) rfl dX8_copyFrom_65 rfl ?_
        refine k_iconst C 69 (v := 0) (by decide) dX8_copyFrom_68 rfl ?_
        refine k_aload_n C 70 1 rfl rfl dX8_copyFrom_69 rfl ?_
        refine k_get C 73 flX8_28 43 (by decide) (v := .ref (ga g 65)) (ce_wld g _ (show 0 < 2 by decide)) rfl dX8_copyFrom_70 rfl ?_
        refine k_iconst C 74 (v := 0) (by decide) dX8_copyFrom_73 rfl ?_
        refine k_aload_n C 75 2 rfl rfl dX8_copyFrom_74 rfl ?_
        refine k_get C 78 flX8_77 44 (by decide) (v := .int ((mu (mrow (mu (mrow (mu (mrow M1 52 (va_cpy (M1 54) (M1 52) 0 0 n0)) 47 1 (nI n0)) 53 (va_cpy ((mu (mrow M1 52 (va_cpy (M1 54) (M1 52) 0 0 n0)) 47 1 (nI n0)) 55) ((mu (mrow M1 52 (va_cpy (M1 54) (M1 52) 0 0 n0)) 47 1 (nI n0)) 53) 0 0 n1)) 48 1 (nI n1)) 62 (va_cpy ((mu (mrow (mu (mrow M1 52 (va_cpy (M1 54) (M1 52) 0 0 n0)) 47 1 (nI n0)) 53 (va_cpy ((mu (mrow M1 52 (va_cpy (M1 54) (M1 52) 0 0 n0)) 47 1 (nI n0)) 55) ((mu (mrow M1 52 (va_cpy (M1 54) (M1 52) 0 0 n0)) 47 1 (nI n0)) 53) 0 0 n1)) 48 1 (nI n1)) 63) ((mu (mrow (mu (mrow M1 52 (va_cpy (M1 54) (M1 52) 0 0 n0)) 47 1 (nI n0)) 53 (va_cpy ((mu (mrow M1 52 (va_cpy (M1 54) (M1 52) 0 0 n0)) 47 1 (nI n0)) 55) ((mu (mrow M1 52 (va_cpy (M1 54) (M1 52) 0 0 n0)) 47 1 (nI n0)) 53) 0 0 n1)) 48 1 (nI n1)) 62) 0 0 t)) 43 3 (nI t)) 44 5)) (ce_wld g _ (show 1 < 2 by decide)) rfl dX8_copyFrom_75 rfl ?_
        refine k_teq (show (mu (mrow (mu (mrow (mu (mrow M1 52 (va_cpy (M1 54) (M1 52) 0 0 n0)) 47 1 (nI n0)) 53 (va_cpy ((mu (mrow M1 52 (va_cpy (M1 54) (M1 52) 0 0 n0)) 47 1 (nI n0)) 55) ((mu (mrow M1 52 (va_cpy (M1 54) (M1 52) 0 0 n0)) 47 1 (nI n0)) 53) 0 0 n1)) 48 1 (nI n1)) 62 (va_cpy ((mu (mrow (mu (mrow M1 52 (va_cpy (M1 54) (M1 52) 0 0 n0)) 47 1 (nI n0)) 53 (va_cpy ((mu (mrow M1 52 (va_cpy (M1 54) (M1 52) 0 0 n0)) 47 1 (nI n0)) 55) ((mu (mrow M1 52 (va_cpy (M1 54) (M1 52) 0 0 n0)) 47 1 (nI n0)) 53) 0 0 n1)) 48 1 (nI n1)) 63) ((mu (mrow (mu (mrow M1 52 (va_cpy (M1 54) (M1 52) 0 0 n0)) 47 1 (nI n0)) 53 (va_cpy ((mu (mrow M1 52 (va_cpy (M1 54) (M1 52) 0 0 n0)) 47 1 (nI n0)) 55) ((mu (mrow M1 52 (va_cpy (M1 54) (M1 52) 0 0 n0)) 47 1 (nI n0)) 53) 0 0 n1)) 48 1 (nI n1)) 62) 0 0 t)) 43 3 (nI t)) 44 5 = (mrow (mu (mrow (mu (mrow M1 52 (va_cpy (M1 54) (M1 52) 0 0 n0)) 47 1 (nI n0)) 53 (va_cpy ((mu (mrow M1 52 (va_cpy (M1 54) (M1 52) 0 0 n0)) 47 1 (nI n0)) 55) ((mu (mrow M1 52 (va_cpy (M1 54) (M1 52) 0 0 n0)) 47 1 (nI n0)) 53) 0 0 n1)) 48 1 (nI n1)) 62 (va_cpy ((mu (mrow (mu (mrow M1 52 (va_cpy (M1 54) (M1 52) 0 0 n0)) 47 1 (nI n0)) 53 (va_cpy ((mu (mrow M1 52 (va_cpy (M1 54) (M1 52) 0 0 n0)) 47 1 (nI n0)) 55) ((mu (mrow M1 52 (va_cpy (M1 54) (M1 52) 0 0 n0)) 47 1 (nI n0)) 53) 0 0 n1)) 48 1 (nI n1)) 63) ((mu (mrow (mu (mrow M1 52 (va_cpy (M1 54) (M1 52) 0 0 n0)) 47 1 (nI n0)) 53 (va_cpy ((mu (mrow M1 52 (va_cpy (M1 54) (M1 52) 0 0 n0)) 47 1 (nI n0)) 55) ((mu (mrow M1 52 (va_cpy (M1 54) (M1 52) 0 0 n0)) 47 1 (nI n0)) 53) 0 0 n1)) 48 1 (nI n1)) 62) 0 0 t)) 44 5 by simp [mu_at]) ?_
        refine k_teq (y := nI u) (by rw [mrow_n _ _ (show 44 ≠ 62 by decide)]; simp only [mu_n _ _ _ (show 44 ≠ 48 by decide), mu_n _ _ _ (show 44 ≠ 47 by decide), mrow_n _ _ (show 44 ≠ 53 by decide), mrow_n _ _ (show 44 ≠ 52 by decide)]; rw [hF.2.2 _ (by decide) (by decide)]; exact hu) ?_
        refine k_copy C 81 66 65 0 0 u 0 mwX8_71 (by decide) (by decide) (ce_wt g (show 1 < 2 by decide)) (ce_wt g (show 0 < 2 by decide)) rfl rfl rfl rfl rfl (by omega) (by omega) (by decide) (by decide) (fun _ _ => rfl) (Nat.le_of_ble_eq_true rfl) dX8_copyFrom_78 rfl ?_
        refine k_aload_n C 82 1 rfl rfl dX8_copyFrom_81 rfl ?_
        refine k_aload_n C 83 2 rfl rfl dX8_copyFrom_82 rfl ?_
        refine k_get C 86 flX8_77 44 (by decide) (v := .int ((mrow (mu (mrow (mu (mrow (mu (mrow M1 52 (va_cpy (M1 54) (M1 52) 0 0 n0)) 47 1 (nI n0)) 53 (va_cpy ((mu (mrow M1 52 (va_cpy (M1 54) (M1 52) 0 0 n0)) 47 1 (nI n0)) 55) ((mu (mrow M1 52 (va_cpy (M1 54) (M1 52) 0 0 n0)) 47 1 (nI n0)) 53) 0 0 n1)) 48 1 (nI n1)) 62 (va_cpy ((mu (mrow (mu (mrow M1 52 (va_cpy (M1 54) (M1 52) 0 0 n0)) 47 1 (nI n0)) 53 (va_cpy ((mu (mrow M1 52 (va_cpy (M1 54) (M1 52) 0 0 n0)) 47 1 (nI n0)) 55) ((mu (mrow M1 52 (va_cpy (M1 54) (M1 52) 0 0 n0)) 47 1 (nI n0)) 53) 0 0 n1)) 48 1 (nI n1)) 63) ((mu (mrow (mu (mrow M1 52 (va_cpy (M1 54) (M1 52) 0 0 n0)) 47 1 (nI n0)) 53 (va_cpy ((mu (mrow M1 52 (va_cpy (M1 54) (M1 52) 0 0 n0)) 47 1 (nI n0)) 55) ((mu (mrow M1 52 (va_cpy (M1 54) (M1 52) 0 0 n0)) 47 1 (nI n0)) 53) 0 0 n1)) 48 1 (nI n1)) 62) 0 0 t)) 43 3 (nI t)) 65 (va_cpy ((mu (mrow (mu (mrow (mu (mrow M1 52 (va_cpy (M1 54) (M1 52) 0 0 n0)) 47 1 (nI n0)) 53 (va_cpy ((mu (mrow M1 52 (va_cpy (M1 54) (M1 52) 0 0 n0)) 47 1 (nI n0)) 55) ((mu (mrow M1 52 (va_cpy (M1 54) (M1 52) 0 0 n0)) 47 1 (nI n0)) 53) 0 0 n1)) 48 1 (nI n1)) 62 (va_cpy ((mu (mrow (mu (mrow M1 52 (va_cpy (M1 54) (M1 52) 0 0 n0)) 47 1 (nI n0)) 53 (va_cpy ((mu (mrow M1 52 (va_cpy (M1 54) (M1 52) 0 0 n0)) 47 1 (nI n0)) 55) ((mu (mrow M1 52 (va_cpy (M1 54) (M1 52) 0 0 n0)) 47 1 (nI n0)) 53) 0 0 n1)) 48 1 (nI n1)) 63) ((mu (mrow (mu (mrow M1 52 (va_cpy (M1 54) (M1 52) 0 0 n0)) 47 1 (nI n0)) 53 (va_cpy ((mu (mrow M1 52 (va_cpy (M1 54) (M1 52) 0 0 n0)) 47 1 (nI n0)) 55) ((mu (mrow M1 52 (va_cpy (M1 54) (M1 52) 0 0 n0)) 47 1 (nI n0)) 53) 0 0 n1)) 48 1 (nI n1)) 62) 0 0 t)) 43 3 (nI t)) 66) ((mu (mrow (mu (mrow (mu (mrow M1 52 (va_cpy (M1 54) (M1 52) 0 0 n0)) 47 1 (nI n0)) 53 (va_cpy ((mu (mrow M1 52 (va_cpy (M1 54) (M1 52) 0 0 n0)) 47 1 (nI n0)) 55) ((mu (mrow M1 52 (va_cpy (M1 54) (M1 52) 0 0 n0)) 47 1 (nI n0)) 53) 0 0 n1)) 48 1 (nI n1)) 62 (va_cpy ((mu (mrow (mu (mrow M1 52 (va_cpy (M1 54) (M1 52) 0 0 n0)) 47 1 (nI n0)) 53 (va_cpy ((mu (mrow M1 52 (va_cpy (M1 54) (M1 52) 0 0 n0)) 47 1 (nI n0)) 55) ((mu (mrow M1 52 (va_cpy (M1 54) (M1 52) 0 0 n0)) 47 1 (nI n0)) 53) 0 0 n1)) 48 1 (nI n1)) 63) ((mu (mrow (mu (mrow M1 52 (va_cpy (M1 54) (M1 52) 0 0 n0)) 47 1 (nI n0)) 53 (va_cpy ((mu (mrow M1 52 (va_cpy (M1 54) (M1 52) 0 0 n0)) 47 1 (nI n0)) 55) ((mu (mrow M1 52 (va_cpy (M1 54) (M1 52) 0 0 n0)) 47 1 (nI n0)) 53) 0 0 n1)) 48 1 (nI n1)) 62) 0 0 t)) 43 3 (nI t)) 65) 0 0 u)) 44 5)) (ce_wld g _ (show 1 < 2 by decide)) rfl dX8_copyFrom_83 rfl ?_
        refine k_teq (y := nI u) (by rw [mrow_n _ _ (show 44 ≠ 65 by decide), mu_n _ _ _ (show 44 ≠ 43 by decide), mrow_n _ _ (show 44 ≠ 62 by decide)]; simp only [mu_n _ _ _ (show 44 ≠ 48 by decide), mu_n _ _ _ (show 44 ≠ 47 by decide), mrow_n _ _ (show 44 ≠ 53 by decide), mrow_n _ _ (show 44 ≠ 52 by decide)]; rw [hF.2.2 _ (by decide) (by decide)]; exact hu) ?_
        refine k_put C 89 flX8_77 plX8 43 (by decide) (ce_wld g _ (show 0 < 2 by decide)) (ce_wld g _ (show 0 < 2 by decide)) (Nat.le_of_ble_eq_true rfl) rfl rfl rfl dX8_copyFrom_86 rfl ?_
        refine k_vret C dX8_copyFrom_89 ?_
        exact cpW_of_0 hn h12 h0 h600 h1 h601 ht h60 hu h24 hF
      · skip
        exact absurd d15xx (by decide)
