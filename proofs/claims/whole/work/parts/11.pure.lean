-- pure words on a field of furrows F (furrow i: the row F i), and small facts on ints
def oI : Option Nat → Int32
  | none => -1
  | some i => nI i
def fF (M : Mem) (fi : Nat) : Nat → Nat → Int32 := fun i => M (12 * fi + i)
def mF (M : Mem) : Nat → Nat → Int32 := fun i j => M 92 (6 + 7 * i + j)
def pAhead (F : Nat → Nat → Int32) : Nat → Option Nat
  | 0 => none
  | i + 1 => if F i 6 = 0 then some i else pAhead F i
def pNx (F : Nat → Nat → Int32) : Nat → Nat → Option Nat
  | 0, _ => none
  | s + 1, k => if F k 6 = 0 then some k else pNx F s (k + 1)
def pHeard (F : Nat → Nat → Int32) (n i : Nat) : Bool := match pNx F (n - (i + 1)) (i + 1) with
  | none => false
  | some k => pAns (F k) (F i)
def pIsAns (F : Nat → Nat → Int32) (i : Nat) : Bool := if F i 6 = 0 then (match pAhead F i with
  | none => false
  | some a => pAns (F i) (F a)) else false
def pSet (F : Nat → Nat → Int32) : Nat → Nat
  | 0 => 0
  | i + 1 => if F i 6 = 0 then pSet F i + 2 ^ i else pSet F i
def pCnt (F : Nat → Nat → Int32) : Nat → Nat
  | 0 => 0
  | i + 1 => if pIsAns F i then pCnt F i + 1 else pCnt F i
def pLong (F : Nat → Nat → Int32) : Nat → Nat × Nat
  | 0 => (0, 0)
  | i + 1 => if F i 6 = 0 then (max (pLong F i).1 (if pIsAns F i then (pLong F i).2 + 1 else 1), if pIsAns F i then (pLong F i).2 + 1 else 1) else pLong F i
def pYR (F : Nat → Nat → Int32) (n : Nat) (pat : Int32) (i : Nat) : Nat → Int32 := if i < n ∧ F i 6 = 0 ∧ pHeard F n i = false then pUnh pat (F i) else F i
/-- the class's memory with the furrows from j on as a year leaves them -/
def pYp (M : Mem) (fi n : Nat) (pat : Int32) (j : Nat) : Mem := fun a => if 12 * fi + j ≤ a ∧ a < 12 * fi + 12 then pYR (fF M fi) n pat (a - 12 * fi) else M a
def pYM (M : Mem) (fi n : Nat) (pat : Int32) : Mem := mu (pYp M fi n pat 0) (37 + fi) 2 (M (37 + fi) 2 + 1)
def popc (m : Nat) : Nat := (List.range 12).foldl (fun a i => a + m / 2 ^ i % 2) 0
theorem pNx_end (F : Nat → Nat → Int32) {n k : Nat} (h : n ≤ k) : pNx F (n - k) k = none := by
  rw [show n - k = 0 by omega]; rfl
theorem pNx_hit (F : Nat → Nat → Int32) {n k : Nat} (h : k < n) (h0 : F k 6 = 0) : pNx F (n - k) k = some k := by
  rw [show n - k = (n - k - 1) + 1 by omega]; simp [pNx, h0]
theorem pNx_skip (F : Nat → Nat → Int32) {n k : Nat} (h : k < n) (h0 : ¬ F k 6 = 0) : pNx F (n - k) k = pNx F (n - (k + 1)) (k + 1) := by
  rw [show n - k = (n - (k + 1)) + 1 by omega]; simp [pNx, h0]
theorem pNx_in (F : Nat → Nat → Int32) : ∀ (s k a : Nat), pNx F s k = some a → k ≤ a ∧ a < k + s ∧ F a 6 = 0
  | 0, _, _, h => by simp [pNx] at h
  | s + 1, k, a, h => by
    by_cases h0 : F k 6 = 0
    · simp [pNx, h0] at h
      subst h
      exact ⟨Nat.le_refl _, by omega, h0⟩
    · simp [pNx, h0] at h
      have := pNx_in F s (k + 1) a h
      exact ⟨by omega, by omega, this.2.2⟩
theorem pAhead_in (F : Nat → Nat → Int32) : ∀ (i a : Nat), pAhead F i = some a → a < i ∧ F a 6 = 0
  | 0, _, h => by simp [pAhead] at h
  | i + 1, a, h => by
    by_cases h0 : F i 6 = 0
    · simp [pAhead, h0] at h
      subst h
      exact ⟨by omega, h0⟩
    · simp [pAhead, h0] at h
      have := pAhead_in F i a h
      exact ⟨by omega, this.2⟩
theorem pCnt_le (F : Nat → Nat → Int32) : ∀ i, pCnt F i ≤ i
  | 0 => Nat.le_refl 0
  | i + 1 => by
    have := pCnt_le F i
    simp only [pCnt]; split <;> omega
theorem pLong_le (F : Nat → Nat → Int32) : ∀ i, (pLong F i).1 ≤ i ∧ (pLong F i).2 ≤ i
  | 0 => ⟨Nat.le_refl 0, Nat.le_refl 0⟩
  | i + 1 => by
    have := pLong_le F i
    simp only [pLong]
    (repeat' split) <;> (try simp only) <;> omega
theorem pSet_lt (F : Nat → Nat → Int32) : ∀ i, pSet F i < 2 ^ i
  | 0 => Nat.one_pos
  | i + 1 => by
    have := pSet_lt F i
    simp only [pSet]; rw [Nat.pow_succ]; split <;> omega
theorem nI_max {a b : Nat} (ha : a < 2 ^ 31) (hb : b < 2 ^ 31) : (if nI a < nI b then nI b else nI a) = nI (max a b) := by
  by_cases h : a < b
  · rw [if_pos ((nI_ltI ha hb).mpr h), Nat.max_eq_right (by omega)]
  · rw [if_neg (fun q => h ((nI_ltI ha hb).mp q)), Nat.max_eq_left (by omega)]
theorem nI_min {a b : Nat} (ha : a < 2 ^ 31) (hb : b < 2 ^ 31) : (if nI b < nI a then nI b else nI a) = nI (min a b) := by
  by_cases h : b < a
  · rw [if_pos ((nI_ltI hb ha).mpr h), Nat.min_eq_right (by omega)]
  · rw [if_neg (fun q => h ((nI_ltI hb ha).mp q)), Nat.min_eq_left (by omega)]
theorem iinc_m (x : Int32) : x + Int32.ofInt (-1) = x - 1 := by
  rw [show Int32.ofInt (-1) = -1 by decide, Int32.sub_eq_add_neg]
theorem iinc_p (j : Nat) : nI j + Int32.ofInt 1 = nI (j + 1) := nI_1 j
theorem iinc_m1 (j : Nat) : nI (j + 1) + Int32.ofInt (-1) = nI j := pk_m1 j
theorem or_bit : ∀ i, i < 12 → ∀ m, m < 2 ^ i → nI m ||| ((1 : Int32) <<< (nI i &&& 31)) = nI (m + 2 ^ i) := by decide +kernel
theorem two64 {P : Nat → Prop} (h : ∀ a, a < 64 → ∀ b, b < 64 → P (64 * a + b)) (m : Nat) (hm : m < 4096) : P m := by
  have := h (m / 64) (by omega) (m % 64) (by omega)
  rwa [show 64 * (m / 64) + m % 64 = m by omega] at this
theorem kern_step : ∀ m, m < 4096 → (0 < m → (nI m &&& (nI m - 1)) = nI (m &&& (m - 1)) ∧ popc (m &&& (m - 1)) + 1 = popc m ∧ (m &&& (m - 1)) < m) := two64 (by decide +kernel)
theorem pAns_congr {a b a' b' : Nat → Int32} (h : ∀ j, j < 5 → a j = a' j) (h' : ∀ j, j < 5 → b j = b' j) : pAns a b = pAns a' b' := by
  simp only [pAns, h 0 (by omega), h 2 (by omega), h 3 (by omega), h 4 (by omega), h' 2 (by omega), h' 3 (by omega), h' 4 (by omega)]
theorem pUnh_lo (pat : Int32) (f : Nat → Int32) {j : Nat} (h : j < 5) : pUnh pat f j = f j := by
  unfold pUnh upd
  rw [if_neg (by omega), if_neg (by omega)]
theorem pYR_lo (F : Nat → Nat → Int32) (n : Nat) (pat : Int32) (i : Nat) {j : Nat} (h : j < 5) : pYR F n pat i j = F i j := by
  unfold pYR; split
  · exact pUnh_lo pat _ h
  · rfl
theorem pYp_out (M : Mem) (fi n : Nat) (pat : Int32) (j : Nat) {a : Nat} (h : ¬ (12 * fi + j ≤ a ∧ a < 12 * fi + 12)) : pYp M fi n pat j a = M a := if_neg h
theorem pYp_in (M : Mem) (fi n : Nat) (pat : Int32) (j : Nat) {i : Nat} (h : j ≤ i) (h2 : i < 12) : pYp M fi n pat j (12 * fi + i) = pYR (fF M fi) n pat i := by
  unfold pYp; rw [if_pos (by omega)]; congr 1; omega
theorem pYp_lo (M : Mem) (fi n : Nat) (pat : Int32) (j i : Nat) {q : Nat} (h2 : i < 12) (h : q < 5) : pYp M fi n pat j (12 * fi + i) q = M (12 * fi + i) q := by
  by_cases hj : j ≤ i
  · rw [pYp_in M fi n pat j hj h2, pYR_lo _ _ _ _ h]; rfl
  · rw [pYp_out _ _ _ _ _ (by omega)]
theorem pYp_same (M : Mem) (fi n : Nat) (pat : Int32) {j : Nat} (hj : j < 12) (h : pYR (fF M fi) n pat j = M (12 * fi + j)) : pYp M fi n pat (j + 1) = pYp M fi n pat j := by
  funext a
  by_cases ha : a = 12 * fi + j
  · subst ha
    rw [pYp_out _ _ _ _ _ (by omega), pYp_in _ _ _ _ _ (Nat.le_refl _) hj, h]
  · unfold pYp
    by_cases hc : 12 * fi + j ≤ a ∧ a < 12 * fi + 12
    · rw [if_pos hc, if_pos (by omega)]
    · rw [if_neg hc, if_neg (by omega)]
theorem pYp_put (M : Mem) (fi n : Nat) (pat : Int32) {j : Nat} (hj : j < 12) (h : pYR (fF M fi) n pat j = pUnh pat (M (12 * fi + j))) : mrow (pYp M fi n pat (j + 1)) (12 * fi + j) (pUnh pat (pYp M fi n pat (j + 1) (12 * fi + j))) = pYp M fi n pat j := by
  funext a
  by_cases ha : a = 12 * fi + j
  · subst ha
    rw [mrow_s, pYp_out _ _ _ _ _ (by omega), pYp_in _ _ _ _ _ (Nat.le_refl _) hj, h]
  · rw [mrow_n _ _ ha]
    unfold pYp
    by_cases hc : 12 * fi + j ≤ a ∧ a < 12 * fi + 12
    · rw [if_pos hc, if_pos (by omega)]
    · rw [if_neg hc, if_neg (by omega)]
theorem pYp_n (M : Mem) (fi n : Nat) (pat : Int32) {j : Nat} (h : n ≤ j) : pYp M fi n pat j = M := by
  funext a
  unfold pYp
  split
  · unfold pYR
    rw [if_neg (by omega)]
    show M (12 * fi + (a - 12 * fi)) = M a
    congr 1; omega
  · rfl
/-- Math.max, Math.min as the rows of the kit say them, for later use -/
def pBc (x : Int32) : Int32 :=
  let a := x - ((x.toUInt32 >>> ((1 : Int32).toUInt32 &&& Int32.toUInt32 31)).toInt32 &&& 1431655765)
  let b := (a &&& 858993459) + ((a.toUInt32 >>> ((2 : Int32).toUInt32 &&& Int32.toUInt32 31)).toInt32 &&& 858993459)
  let d := (b + (b.toUInt32 >>> ((4 : Int32).toUInt32 &&& Int32.toUInt32 31)).toInt32) &&& 252645135
  let e := d + (d.toUInt32 >>> ((8 : Int32).toUInt32 &&& Int32.toUInt32 31)).toInt32
  let f := e + (e.toUInt32 >>> ((16 : Int32).toUInt32 &&& Int32.toUInt32 31)).toInt32
  f &&& 63
theorem pBc_nI : ∀ m, m < 4096 → pBc (nI m) = nI (popc m) := two64 (by decide +kernel)
