-- laws: codes and their pile
def pJoin (s x y : Int32) : Int32 :=
  if s = 124 then b2i (!decide (x = 0) || !decide (y = 0)) else if s = 38 then b2i (!decide (x = 0) && !decide (y = 0))
  else if s = 60 then b2i (decide (x < y)) else if s = 61 then b2i (decide (x = y)) else if s = 62 then b2i (decide (y < x))
  else if s = 43 then x + y else if s = 45 then x - y else if s = 42 then x * y
  else if s = 47 then (if y = 0 then 0 else x / y) else if s = 37 then (if y = 0 then 0 else x - x / y * y) else 0
def vv (a b c : Int32) : Nat → Int32 := fun i => if i = 0 then a else if i = 1 then b else c
/-- how high the pile is behind k parts -/
def hgt (p : Nat → Int32) : Nat → Nat
  | 0 => 0
  | k + 1 => if -3 ≤ p k then hgt p k + 1 else if p k = -33 then hgt p k else hgt p k - 1
/-- the pile behind k parts -/
def sA (p v s0 : Nat → Int32) : Nat → Nat → Int32
  | 0 => s0
  | k + 1 => if 0 ≤ p k then upd (sA p v s0 k) (hgt p k) (p k)
    else if -3 ≤ p k then upd (sA p v s0 k) (hgt p k) (if p k = -1 then v 0 else if p k = -3 then v 2 else v 1)
    else if p k = -33 then upd (sA p v s0 k) (hgt p k - 1) (b2i (decide (sA p v s0 k (hgt p k - 1) = 0)))
    else upd (sA p v s0 k) (hgt p k - 2) (pJoin (-(p k)) (sA p v s0 k (hgt p k - 2)) (sA p v s0 k (hgt p k - 1)))
def isSign (s : Int32) : Prop := s = 124 ∨ s = 38 ∨ s = 60 ∨ s = 61 ∨ s = 62 ∨ s = 43 ∨ s = 45 ∨ s = 42 ∨ s = 47 ∨ s = 37
/-- a part at its place, with a pile of h below it -/
def partOk (x : Int32) (h : Nat) : Prop := (-3 ≤ x ∧ x ≤ 9999) ∨ (x = -33 ∧ 1 ≤ h) ∨ (isSign (-x) ∧ ¬ -3 ≤ x ∧ ¬ x = -33 ∧ 2 ≤ h)
def WF (n : Nat) (p : Nat → Int32) : Prop := hgt p n = 1 ∧ ∀ k, k < n → partOk (p k) (hgt p k)
def pVal (p : Nat → Int32) (n : Nat) (v : Nat → Int32) : Int32 := sA p v (fun _ => 0) n 0
def pGive (u n : Nat) (p : Nat → Int32) (a b c : Int32) : Int32 := if u = 0 then pHold (if 0 < n then pVal p n (vv a b c) else a + b) 1 99 else pHold (if 0 < n then pVal p n (vv a b c) else a * b) (-99) 99
def lawOk (M : Mem) (j n : Nat) : Prop := M (47 + j) 1 = nI n ∧ n ≤ 60 ∧ (0 < n → WF n (M (52 + j)))
/-- the same but for given places -/
def Sc (S : Nat → Nat → Prop) (M M1 : Mem) : Prop := ∀ a k, ¬ S a k → M1 a k = M a k
theorem Sc.rf (S : Nat → Nat → Prop) (M : Mem) : Sc S M M := fun _ _ _ => rfl
theorem Sc.tr {S : Nat → Nat → Prop} {M M1 M2 : Mem} (h : Sc S M M1) (h2 : Sc S M1 M2) : Sc S M M2 := fun a k hs => (h2 a k hs).trans (h a k hs)
theorem Sc.mono {S S' : Nat → Nat → Prop} {M M1 : Mem} (h : Sc S M M1) (hs : ∀ a k, S a k → S' a k) : Sc S' M M1 := fun a k h' => h a k (fun q => h' (hs a k q))
def lawS (a k : Nat) : Prop := (57 ≤ a ∧ a < 62) ∨ (47 ≤ a ∧ a < 52 ∧ k = 3)
theorem hgt_le (p : Nat → Int32) : ∀ k, hgt p k ≤ k
  | 0 => Nat.le_refl 0
  | k + 1 => by
    have := hgt_le p k
    simp only [hgt]; (repeat' split) <;> omega
theorem sA_same (p v s0 s1 : Nat → Int32) : ∀ k, (∀ i, i < k → partOk (p i) (hgt p i)) → ∀ i, i < hgt p k → sA p v s0 k i = sA p v s1 k i
  | 0, _, i, h => absurd h (Nat.not_lt_zero _)
  | k + 1, hw, i, h => by
    have ih := sA_same p v s0 s1 k (fun i hi => hw i (by omega))
    have hk := hw k (by omega)
    simp only [sA, hgt] at h ⊢
    by_cases h0 : 0 ≤ p k
    · have h3 : -3 ≤ p k := Int32.le_trans (by decide) h0
      simp only [if_pos h0, if_pos h3] at h ⊢
      unfold upd
      by_cases hi : i = hgt p k
      · simp [hi]
      · simp only [if_neg hi]; exact ih i (by omega)
    · by_cases h3 : -3 ≤ p k
      · simp only [if_neg h0, if_pos h3] at h ⊢
        unfold upd
        by_cases hi : i = hgt p k
        · simp [hi]
        · simp only [if_neg hi]; exact ih i (by omega)
      · by_cases h33 : p k = -33
        · have h1 : 1 ≤ hgt p k := by
            rcases hk with ⟨h, -⟩ | ⟨-, h⟩ | ⟨-, -, h, -⟩
            · exact absurd h h3
            · exact h
            · exact absurd h33 h
          simp only [if_neg h0, if_neg h3, if_pos h33] at h ⊢
          unfold upd
          rw [ih (hgt p k - 1) (by omega)]
          by_cases hi : i = hgt p k - 1
          · simp [hi]
          · simp only [if_neg hi]; exact ih i (by omega)
        · have h2 : 2 ≤ hgt p k := by
            rcases hk with ⟨h, -⟩ | ⟨h, -⟩ | ⟨-, -, -, h⟩
            · exact absurd h h3
            · exact absurd h h33
            · exact h
          simp only [if_neg h0, if_neg h3, if_neg h33] at h ⊢
          unfold upd
          rw [ih (hgt p k - 1) (by omega), ih (hgt p k - 2) (by omega)]
          by_cases hi : i = hgt p k - 2
          · simp [hi]
          · simp only [if_neg hi]; exact ih i (by omega)
/-- the class's memory as it works out: its pile and how high it is -/
def evM (M : Mem) (j : Nat) (v : Nat → Int32) (k : Nat) : Mem := mrow (mu M (47 + j) 3 (nI (hgt (M (52 + j)) k))) (57 + j) (sA (M (52 + j)) v (M (57 + j)) k)
theorem evM_at {j : Nat} (M : Mem) (v : Nat → Int32) (k : Nat) {a i : Nat} (h : a ≠ 57 + j) (h2 : ¬ (a = 47 + j ∧ i = 3)) : evM M j v k a i = M a i := by
  unfold evM; rw [mrow_n _ _ h, mu_at, if_neg h2]
theorem evM_h {j : Nat} (hj : j < 5) (M : Mem) (v : Nat → Int32) (k : Nat) : evM M j v k (47 + j) 3 = nI (hgt (M (52 + j)) k) := by
  unfold evM; rw [mrow_n _ _ (by omega), mu_s]
theorem evM_s {j : Nat} (M : Mem) (v : Nat → Int32) (k : Nat) : evM M j v k (57 + j) = sA (M (52 + j)) v (M (57 + j)) k := by
  unfold evM; rw [mrow_s]
theorem evM_0 {j : Nat} (hj : j < 5) (M : Mem) (v : Nat → Int32) : evM M j v 0 = mu M (47 + j) 3 0 := by
  funext a
  unfold evM
  by_cases h : a = 57 + j
  · subst h; rw [mrow_s, mu_n _ _ _ (by omega)]; rfl
  · rw [mrow_n _ _ h]; rfl
theorem evM_next {j : Nat} (hj : j < 5) (M : Mem) (v : Nat → Int32) (k i h : Nat) (x : Int32) (hh : hgt (M (52 + j)) (k + 1) = h) (hs : sA (M (52 + j)) v (M (57 + j)) (k + 1) = upd (sA (M (52 + j)) v (M (57 + j)) k) i x) : mu (mu (evM M j v k) (57 + j) i x) (47 + j) 3 (nI h) = evM M j v (k + 1) := by
  funext a
  by_cases h1 : a = 57 + j
  · subst h1
    rw [mu_n _ _ _ (by omega), mu_r, evM_s, evM_s, hs]
  · by_cases h2 : a = 47 + j
    · subst h2
      funext q
      by_cases hq : q = 3
      · subst hq; rw [mu_s, evM_h hj, hh]
      · rw [mu_o _ _ _ hq, mu_n _ _ _ h1, evM_at _ _ _ h1 (by omega), evM_at _ _ _ h1 (by omega)]
    · rw [mu_n _ _ _ h2, mu_n _ _ _ h1]
      funext q
      rw [evM_at _ _ _ h1 (by omega), evM_at _ _ _ h1 (by omega)]
theorem mu_mu (M : Mem) (a b i k : Nat) (x y z : Int32) (h : a ≠ b) : mu (mu (mu M a k z) b i x) a k y = mu (mu M b i x) a k y := by
  funext c
  by_cases h1 : c = a
  · subst h1
    funext q
    by_cases hq : q = k
    · subst hq; rw [mu_s, mu_s]
    · rw [mu_o _ _ _ hq, mu_o _ _ _ hq, mu_n _ _ _ h, mu_n _ _ _ h, mu_o _ _ _ hq]
  · rw [mu_n _ _ _ h1, mu_n _ _ _ h1]
    by_cases h2 : c = b
    · subst h2; rw [mu_r, mu_r, mu_n _ _ _ h1]
    · rw [mu_n _ _ _ h2, mu_n _ _ _ h2, mu_n _ _ _ h1]
theorem mu_2 (M : Mem) (a k : Nat) (y z : Int32) : mu (mu M a k z) a k y = mu M a k y := by
  funext c
  by_cases h1 : c = a
  · subst h1
    funext q
    by_cases hq : q = k
    · subst hq; rw [mu_s, mu_s]
    · rw [mu_o _ _ _ hq, mu_o _ _ _ hq, mu_o _ _ _ hq]
  · rw [mu_n _ _ _ h1, mu_n _ _ _ h1, mu_n _ _ _ h1]
