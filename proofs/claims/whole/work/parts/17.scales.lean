-- chains, scales, sheets: pure words
def pBAt (t : Nat → Nat) (F : Nat → Nat → Int32) (f : Nat) : Nat → Nat
  | 0 => 0
  | k + 1 => if F k 6 = 0 then (if pAns (F f) (F k) then max (pBAt t F f k) (t k) else pBAt t F f k) else pBAt t F f k
def pTab (F : Nat → Nat → Int32) : Nat → Nat → Nat
  | 0 => fun _ => 0
  | i + 1 => if F i 6 = 0 then fun k => if k = i then pBAt (pTab F i) F i i + 4096 + 2 ^ i else pTab F i k else pTab F i
def pBst (F : Nat → Nat → Int32) : Nat → Nat
  | 0 => 0
  | i + 1 => if F i 6 = 0 then max (pBst F i) (pTab F (i + 1) i) else pBst F i
theorem pBAt_le (t : Nat → Nat) (F : Nat → Nat → Int32) (f B : Nat) : ∀ k, (∀ i, i < k → t i ≤ B) → pBAt t F f k ≤ B
  | 0, _ => Nat.zero_le _
  | k + 1, h => by
    have ih := pBAt_le t F f B k (fun i hi => h i (by omega))
    have := h k (by omega)
    simp only [pBAt]; (repeat' split) <;> omega
theorem pTab_le (F : Nat → Nat → Int32) : ∀ i, i ≤ 12 → ∀ k, pTab F i k ≤ i * 8192
  | 0, _, _ => Nat.zero_le _
  | i + 1, h, k => by
    have ih := pTab_le F i (by omega)
    have hb := pBAt_le (pTab F i) F i (i * 8192) i (fun j _ => ih j)
    have hp : 2 ^ i ≤ 4096 := Nat.le_trans (Nat.pow_le_pow_right (by decide) (show i ≤ 12 by omega)) (by decide)
    have := ih k
    by_cases h6 : F i 6 = 0
    · have e : pTab F (i + 1) k = if k = i then pBAt (pTab F i) F i i + 4096 + 2 ^ i else pTab F i k := by simp [pTab, h6]
      rw [e]
      generalize 2 ^ i = P at hp ⊢
      have h0 := ih k
      generalize pTab F i k = A at h0 ⊢
      generalize pBAt (pTab F i) F i i = B at hb ⊢
      have hb' : B ≤ i * 8192 := hb
      clear ih this e hb h6 F
      by_cases hk : k = i
      · rw [if_pos hk]; omega
      · rw [if_neg hk]; exact Nat.le_trans h0 (Nat.mul_le_mul_right _ (Nat.le_succ i))
    · have e : pTab F (i + 1) k = pTab F i k := by simp [pTab, h6]
      rw [e]; exact Nat.le_trans this (Nat.mul_le_mul_right _ (Nat.le_succ i))
theorem pBst_le (F : Nat → Nat → Int32) : ∀ i, i ≤ 12 → pBst F i ≤ 98304
  | 0, _ => Nat.zero_le _
  | i + 1, h => by
    have ih := pBst_le F i (by omega)
    have := pTab_le F (i + 1) h i
    simp only [pBst]; split <;> omega
def ab (i u : Nat) : Nat := (i - u) + (u - i)
theorem nI_abs {i u : Nat} (hi : i < 2 ^ 30) (hu : u < 2 ^ 30) : (if 0 ≤ nI i - nI u then nI i - nI u else 0 - (nI i - nI u)) = nI (ab i u) := by
  have h := pk_sub_toInt hi hu
  by_cases hc : u ≤ i
  · rw [if_pos (by rw [Int32.le_iff_toInt_le, h]; simp; omega), pk_sub hc]
    unfold ab; congr 1; omega
  · rw [if_neg (by rw [Int32.le_iff_toInt_le, h]; simp; omega)]
    have e : nI i - nI u = -(nI u - nI i) := by rw [Int32.neg_sub]
    rw [e, pk_sub (by omega : i ≤ u), Int32.zero_sub, Int32.neg_neg]
    unfold ab; congr 1; omega
/-- the first cheapest of those not settled -/
def pCh (c : Nat → Nat) (z : Nat → Bool) : Nat → Option Nat
  | 0 => none
  | i + 1 => if z i then pCh c z i else match pCh c z i with
    | none => some i
    | some b => if c i < c b then some i else some b
theorem pCh_none (c : Nat → Nat) (z : Nat → Bool) : ∀ n, pCh c z n = none → ∀ i, i < n → z i = true
  | 0, _, _, h => absurd h (Nat.not_lt_zero _)
  | n + 1, h, i, hi => by
    simp only [pCh] at h
    by_cases hz : z n = true
    · rw [if_pos hz] at h
      by_cases e : i = n
      · subst e; exact hz
      · exact pCh_none c z n h i (by omega)
    · rw [if_neg hz] at h
      split at h
      · cases h
      · split at h <;> cases h
theorem pCh_some (c : Nat → Nat) (z : Nat → Bool) : ∀ n u, pCh c z n = some u → u < n ∧ z u = false ∧ ∀ i, i < n → z i = false → c u ≤ c i
  | 0, _, h => by cases h
  | n + 1, u, h => by
    simp only [pCh] at h
    by_cases hz : z n = true
    · rw [if_pos hz] at h
      obtain ⟨h1, h2, h3⟩ := pCh_some c z n u h
      refine ⟨by omega, h2, fun i hi hzi => ?_⟩
      by_cases e : i = n
      · subst e; rw [hz] at hzi; cases hzi
      · exact h3 i (by omega) hzi
    · rw [if_neg hz] at h
      have hz' : z n = false := by simpa using hz
      split at h
      · rename_i hq
        cases h
        refine ⟨by omega, hz', fun i hi hzi => ?_⟩
        by_cases e : i = n
        · subst e; exact Nat.le_refl _
        · have := pCh_none c z n hq i (by omega)
          rw [this] at hzi; cases hzi
      · rename_i b hq
        obtain ⟨h1, h2, h3⟩ := pCh_some c z n b hq
        split at h
        · cases h
          refine ⟨by omega, hz', fun i hi hzi => ?_⟩
          by_cases e : i = n
          · subst e; exact Nat.le_refl _
          · have := h3 i (by omega) hzi; omega
        · cases h
          refine ⟨by omega, h2, fun i hi hzi => ?_⟩
          by_cases e : i = n
          · subst e; omega
          · exact h3 i (by omega) hzi
def cntB (z : Nat → Bool) : Nat → Nat
  | 0 => 0
  | i + 1 => if z i then cntB z i + 1 else cntB z i
theorem cntB_le (z : Nat → Bool) : ∀ n, cntB z n ≤ n
  | 0 => Nat.le_refl 0
  | n + 1 => by have := cntB_le z n; simp only [cntB]; split <;> omega
theorem cntB_all (z : Nat → Bool) : ∀ n, cntB z n = n → ∀ i, i < n → z i = true
  | 0, _, _, h => absurd h (Nat.not_lt_zero _)
  | n + 1, h, i, hi => by
    have hl := cntB_le z n
    simp only [cntB] at h
    by_cases hz : z n = true
    · rw [if_pos hz] at h
      by_cases e : i = n
      · subst e; exact hz
      · exact cntB_all z n (by omega) i (by omega)
    · rw [if_neg hz] at h; omega
theorem cntB_full (z : Nat → Bool) : ∀ n, (∀ i, i < n → z i = true) → cntB z n = n
  | 0, _ => rfl
  | n + 1, h => by simp only [cntB, h n (by omega), if_true, cntB_full z n (fun i hi => h i (by omega))]
theorem cntB_set (z : Nat → Bool) (u : Nat) (hu : z u = false) : ∀ n, u < n → cntB (fun i => if i = u then true else z i) n = cntB z n + 1
  | 0, h => absurd h (Nat.not_lt_zero _)
  | n + 1, h => by
    by_cases e : u = n
    · subst e
      have key : ∀ m, m ≤ u → cntB (fun i => if i = u then true else z i) m = cntB z m := by
        intro m
        induction m with
        | zero => intro _; rfl
        | succ m ih => intro hm; simp only [cntB, ih (by omega), if_neg (show m ≠ u by omega)]
      simp only [cntB, key u (Nat.le_refl _), hu, if_true]
      simp
    · have := cntB_set z u hu n (by omega)
      simp only [cntB, this, if_neg (show n ≠ u from fun q => e q.symm)]
      split <;> rfl
/-- what it costs to come to gl from each of n values, by steps s -/
def isD (n : Nat) (s : Nat → Nat) (gl : Nat) (c : Nat → Nat) : Prop :=
  c gl = 0 ∧ (∀ i j, i < n → j < n → i ≠ j → c i ≤ c j + s (ab i j)) ∧ (∀ i, i < n → i ≠ gl → ∃ j, j < n ∧ j ≠ i ∧ c i = c j + s (ab i j)) ∧ ∀ i, i < n → c i ≤ 99
def sOk (n : Nat) (s : Nat → Nat) : Prop := ∀ d, 1 ≤ d → d < n → 1 ≤ s d ∧ s d ≤ 99
/-- between two rounds -/
def dj (n : Nat) (s : Nat → Nat) (gl : Nat) (c : Nat → Nat) (z : Nat → Bool) : Prop :=
  ((∀ i, i < n → z i = false) ∧ ∀ i, i < n → c i = if i = gl then 0 else 1000000) ∨
  (c gl = 0 ∧ z gl = true ∧ (∀ i, i < n → c i ≤ 99) ∧ (∀ i, i < n → i ≠ gl → ∃ j, j < n ∧ j ≠ i ∧ z j = true ∧ c i = c j + s (ab i j)) ∧
    (∀ b i, b < n → i < n → z b = true → z i = false → c i ≤ c b + s (ab i b) ∧ c b ≤ c i) ∧ ∀ a b, a < n → b < n → a ≠ b → z a = true → z b = true → c a ≤ c b + s (ab a b))
def rch (s : Nat → Nat) (c : Nat → Nat) (z : Nat → Bool) (u i : Nat) : Nat := if z i then c i else min (c i) (c u + s (ab i u))
theorem ab_self (i : Nat) : ab i i = 0 := by unfold ab; omega
theorem ab_in {n i j : Nat} (hi : i < n) (hj : j < n) (h : i ≠ j) : 1 ≤ ab i j ∧ ab i j < n := by unfold ab; omega
theorem dj_end {n : Nat} {s : Nat → Nat} {gl : Nat} {c : Nat → Nat} {z : Nat → Bool} (hg : gl < n) (h : dj n s gl c z) (hz : ∀ i, i < n → z i = true) : isD n s gl c := by
  rcases h with ⟨h, -⟩ | ⟨h1, h2, h3, h4, h5, h6⟩
  · have := h gl hg; rw [hz gl hg] at this; cases this
  · exact ⟨h1, fun i j hi hj hij => h6 i j hi hj hij (hz i hi) (hz j hj), fun i hi hig => by
      obtain ⟨j, a, b, -, d⟩ := h4 i hi hig
      exact ⟨j, a, b, d⟩, h3⟩
theorem dj_step {n : Nat} {s : Nat → Nat} {gl : Nat} {c : Nat → Nat} {z : Nat → Bool} (hs : sOk n s) (hg : gl < n) (h : dj n s gl c z) {u : Nat} (hu : u < n) (hzu : z u = false) (hmin : ∀ i, i < n → z i = false → c u ≤ c i) :
    c u ≤ 99 ∧ dj n s gl (rch s c (fun i => if i = u then true else z i) u) (fun i => if i = u then true else z i) := by
  rcases h with ⟨h1, h2⟩ | ⟨h1, h2, h3, h4, h5, h6⟩
  · have eu : u = gl := by
      have a := hmin gl hg (h1 gl hg)
      rw [h2 gl hg, if_pos rfl] at a
      have b := h2 u hu
      by_cases e : u = gl
      · exact e
      · rw [if_neg e] at b; omega
    subst eu
    have cu : c u = 0 := by rw [h2 u hu, if_pos rfl]
    have hv : ∀ i, i < n → rch s c (fun i => if i = u then true else z i) u i = if i = u then 0 else s (ab i u) := by
      intro i hi
      unfold rch
      by_cases e : i = u
      · subst e; simp [cu]
      · have := (hs (ab i u) (ab_in hi hu e).1 (ab_in hi hu e).2).2
        simp only [if_neg e, h1 i hi, h2 i hi, cu]
        simp; omega
    refine ⟨by omega, Or.inr ⟨by rw [hv u hu, if_pos rfl], by simp, fun i hi => ?_, fun i hi hne => ⟨u, hu, fun q => hne q.symm, by simp, ?_⟩, fun b i hb hi hzb hzi => ?_, fun a b ha hb hne hza hzb => ?_⟩⟩
    · rw [hv i hi]
      by_cases e : i = u
      · rw [if_pos e]; omega
      · rw [if_neg e]; exact (hs _ (ab_in hi hu e).1 (ab_in hi hu e).2).2
    · rw [hv i hi, hv u hu, if_neg hne, if_pos rfl]; omega
    · have eb : b = u := by
        by_cases e : b = u
        · exact e
        · simp only [if_neg e] at hzb; rw [h1 b hb] at hzb; cases hzb
      subst eb
      have e : i ≠ b := fun q => by subst q; simp at hzi
      rw [hv i hi, hv b hb, if_neg e, if_pos rfl]
      omega
    · have ea : a = u := by
        by_cases e : a = u
        · exact e
        · simp only [if_neg e] at hza; rw [h1 a ha] at hza; cases hza
      have eb : b = u := by
        by_cases e : b = u
        · exact e
        · simp only [if_neg e] at hzb; rw [h1 b hb] at hzb; cases hzb
      exact absurd (ea.trans eb.symm) hne
  · have hcu := h3 u hu
    have hug : u ≠ gl := fun q => by subst q; rw [h2] at hzu; cases hzu
    -- the new costs
    have hset : ∀ i, (if i = u then true else z i) = true → rch s c (fun i => if i = u then true else z i) u i = c i := by
      intro i hi; unfold rch; simp only; rw [if_pos hi]
    have hun : ∀ i, i ≠ u → z i = false → rch s c (fun i => if i = u then true else z i) u i = min (c i) (c u + s (ab i u)) := by
      intro i hi hz; unfold rch; simp only [if_neg hi, hz]; rfl
    refine ⟨hcu, Or.inr ⟨by rw [hset gl (by simp [h2])]; exact h1, by simp [h2], fun i hi => ?_, fun i hi hne => ?_, fun b i hb hi hzb hzi => ?_, fun a b ha hb hne hza hzb => ?_⟩⟩
    · unfold rch; have := h3 i hi; split <;> omega
    · obtain ⟨j, hj, hji, hzj, hcj⟩ := h4 i hi hne
      by_cases hi2 : (if i = u then true else z i) = true
      · exact ⟨j, hj, hji, by simp [hzj], by rw [hset i hi2, hset j (by simp [hzj])]; exact hcj⟩
      · have hiu : i ≠ u := fun q => by simp [q] at hi2
        have hzi : z i = false := by simpa [hiu] using hi2
        rw [hun i hiu hzi]
        by_cases hm : c i ≤ c u + s (ab i u)
        · exact ⟨j, hj, hji, by simp [hzj], by rw [hset j (by simp [hzj])]; omega⟩
        · exact ⟨u, hu, fun q => hiu q.symm, by simp, by rw [hset u (by simp)]; omega⟩
    · have hiu : i ≠ u := fun q => by simp [q] at hzi
      have hzi' : z i = false := by simpa [hiu] using hzi
      rw [hun i hiu hzi', hset b hzb]
      by_cases hbu : b = u
      · subst hbu
        have := hmin i hi hzi'
        omega
      · have hzb' : z b = true := by simpa [hbu] using hzb
        have a1 := h5 b i hb hi hzb' hzi'
        have a2 := h5 b u hb hu hzb' hzu
        omega
    · rw [hset a hza, hset b hzb]
      by_cases hau : a = u
      · subst hau
        have hba : b ≠ a := fun q => hne q.symm
        have hzb' : z b = true := by simpa [hba] using hzb
        exact (h5 b a hb hu hzb' hzu).1
      · have hza' : z a = true := by simpa [hau] using hza
        by_cases hbu : b = u
        · subst hbu
          have := (h5 a b ha hu hza' hzu).2
          omega
        · have hzb' : z b = true := by simpa [hbu] using hzb
          exact h6 a b ha hb hne hza' hzb'
/-- the least value behind a first step of a cheapest way -/
def pFst (s c : Nat → Nat) (from_ : Nat) : Nat → Nat → Option Nat
  | 0, _ => none
  | k + 1, i => if i ≠ from_ ∧ c i + s (ab i from_) = c from_ then some i else pFst s c from_ k (i + 1)
def pCut (bits v : Int32) : Int32 := if bits = 8 then v.toInt8.toInt32 else if bits = 16 then v.toInt16.toInt32 else v
def zr (k : Nat) (f : Nat → Int32) : Nat → Int32 := fun i => if i < k then 0 else f i
