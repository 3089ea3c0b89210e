-- pure: fewest: the longest chain and the least cover
def bs (m : Nat) : Nat → Nat
  | 0 => 0
  | k + 1 => bs m k + 2 ^ k * (m / 2 ^ k % 2)
def pcn (m : Nat) : Nat → Nat
  | 0 => 0
  | k + 1 => pcn m k + m / 2 ^ k % 2
theorem popc_pcn (m : Nat) : popc m = pcn m 12 := by
  simp only [popc, pcn, List.range, List.range.loop, List.foldl]
theorem bs_mod (m : Nat) : ∀ k, bs m k = m % 2 ^ k
  | 0 => (Nat.mod_one m).symm
  | k + 1 => by
    simp only [bs]; rw [bs_mod m k, Nat.mod_pow_succ]
theorem bs_id {m k : Nat} (h : m < 2 ^ k) : bs m k = m := by rw [bs_mod, Nat.mod_eq_of_lt h]
theorem bs_add {x y z : Nat} : ∀ k, (∀ i, i < k → x / 2 ^ i % 2 + y / 2 ^ i % 2 = z / 2 ^ i % 2) → bs x k + bs y k = bs z k
  | 0, _ => rfl
  | k + 1, h => by
    have h1 := bs_add k (fun i hi => h i (by omega))
    have h2 := h k (by omega)
    simp only [bs]
    rw [← h2, Nat.mul_add]; omega
theorem pcn_add {x y z : Nat} : ∀ k, (∀ i, i < k → x / 2 ^ i % 2 + y / 2 ^ i % 2 = z / 2 ^ i % 2) → pcn x k + pcn y k = pcn z k
  | 0, _ => rfl
  | k + 1, h => by
    have h1 := pcn_add k (fun i hi => h i (by omega))
    have h2 := h k (by omega)
    simp only [pcn]; omega
theorem bit_tb (m i : Nat) : m / 2 ^ i % 2 = (m.testBit i).toNat := (Nat.toNat_testBit m i).symm
theorem bitN_add {x i : Nat} (hx : x < 2 ^ i) (k : Nat) : (x + 2 ^ i) / 2 ^ k % 2 = x / 2 ^ k % 2 + (if k = i then 1 else 0) := by
  rw [bit_tb, bit_tb, Nat.add_comm]
  rcases Nat.lt_trichotomy k i with h | h | h
  · rw [Nat.testBit_two_pow_add_gt h, if_neg (by omega)]; rfl
  · subst h
    rw [Nat.testBit_two_pow_add_eq, Nat.testBit_lt_two_pow hx, if_pos rfl]; rfl
  · have h1 : 2 ^ i + 2 ^ i ≤ 2 ^ k := by
      have := Nat.pow_le_pow_right (n := 2) (by decide) (show i + 1 ≤ k by omega)
      rw [Nat.pow_succ] at this; omega
    rw [Nat.testBit_lt_two_pow (by omega), Nat.testBit_lt_two_pow (by omega), if_neg (by omega)]; rfl
theorem pcn_top {x i : Nat} (hx : x < 2 ^ i) : ∀ k, pcn (x + 2 ^ i) k = pcn x k + (if i < k then 1 else 0)
  | 0 => by rw [if_neg (by omega)]; rfl
  | k + 1 => by
    simp only [pcn]
    rw [pcn_top hx k, bitN_add hx k]
    by_cases h : k = i
    · subst h; rw [if_neg (Nat.lt_irrefl _), if_pos rfl, if_pos (by omega)]; omega
    · rw [if_neg h]
      by_cases h2 : i < k
      · rw [if_pos h2, if_pos (by omega)]; omega
      · rw [if_neg h2, if_neg (by omega)]; omega
theorem popc_top {x i : Nat} (hx : x < 2 ^ i) (hi : i < 12) : popc (x + 2 ^ i) = popc x + 1 := by
  rw [popc_pcn, popc_pcn, pcn_top hx, if_pos hi]
theorem bit_hi {x i k : Nat} (hx : x < 2 ^ i) (h : i ≤ k) : x / 2 ^ k % 2 = 0 := by
  rw [bit_tb, Nat.testBit_lt_two_pow (Nat.lt_of_lt_of_le hx (Nat.pow_le_pow_right (by decide) h))]; rfl
theorem bit_and {A j i : Nat} (hi : i < 12) : (A &&& (4095 ^^^ j)) / 2 ^ i % 2 = if A / 2 ^ i % 2 = 1 ∧ ¬ j / 2 ^ i % 2 = 1 then 1 else 0 := by
  rw [bit_tb, bit_tb, bit_tb, Nat.testBit_and, Nat.testBit_xor, t4095, decide_eq_true hi]
  cases A.testBit i <;> cases j.testBit i <;> rfl
theorem bit_01 (m i : Nat) : m / 2 ^ i % 2 = 0 ∨ m / 2 ^ i % 2 = 1 := by omega
/-- every bit of j is one of A -/
def sub12 (j A : Nat) : Prop := ∀ i, i < 12 → j / 2 ^ i % 2 = 1 → A / 2 ^ i % 2 = 1
theorem sub12_of {j A : Nat} (h : (j &&& (4095 ^^^ A)) = 0) : sub12 j A := by
  intro i hi hj
  have e := bit_and (A := j) (j := A) hi
  rw [h, Nat.zero_div] at e
  rcases bit_01 A i with q | q
  · rw [if_pos ⟨hj, by omega⟩] at e; exact absurd e (by decide)
  · exact q
theorem bs_0 {m : Nat} : ∀ k, (∀ i, i < k → m / 2 ^ i % 2 = 0) → bs m k = 0
  | 0, _ => rfl
  | k + 1, h => by
    simp only [bs]; rw [bs_0 k (fun i hi => h i (by omega)), h k (by omega)]; omega
theorem sub12_to {j A : Nat} (hj : j < 4096) (h : sub12 j A) : (j &&& (4095 ^^^ A)) = 0 := by
  rw [← bs_id (m := j &&& (4095 ^^^ A)) (k := 12) (andn_lt hj)]
  refine bs_0 12 (fun i hi => ?_)
  rw [bit_and hi]
  exact if_neg (fun q => q.2 (h i hi q.1))
theorem cmp_bits {j A : Nat} (h : sub12 j A) : ∀ i, i < 12 → j / 2 ^ i % 2 + (A &&& (4095 ^^^ j)) / 2 ^ i % 2 = A / 2 ^ i % 2 := by
  intro i hi
  rw [bit_and hi]
  have h1 := h i hi
  rcases bit_01 j i with q | q <;> rcases bit_01 A i with r | r <;> simp [q, r] at h1 ⊢
theorem cmp_sum {j A : Nat} (hA : A < 4096) (hj : j < 4096) (h : sub12 j A) : j + (A &&& (4095 ^^^ j)) = A := by
  have e := bs_add 12 (cmp_bits h)
  rw [bs_id (k := 12) hj, bs_id (k := 12) (andn_lt hA), bs_id (k := 12) hA] at e; exact e
theorem cmp_popc {j A : Nat} (h : sub12 j A) : popc j + popc (A &&& (4095 ^^^ j)) = popc A := by
  rw [popc_pcn, popc_pcn, popc_pcn]; exact pcn_add 12 (cmp_bits h)
theorem cmp_cmp {j A : Nat} (hA : A < 4096) (hj : j < 4096) (h : sub12 j A) : (A &&& (4095 ^^^ (A &&& (4095 ^^^ j)))) = j := by
  have h2 : sub12 (A &&& (4095 ^^^ j)) A := by
    intro i hi q
    rw [bit_and hi] at q
    by_cases z : A / 2 ^ i % 2 = 1 ∧ ¬ j / 2 ^ i % 2 = 1
    · exact z.1
    · rw [if_neg z] at q; exact absurd q (by decide)
  have e1 := cmp_sum hA hj h
  have e2 := cmp_sum hA (andn_lt hA) h2
  omega
theorem pSet_bit (F : Nat → Nat → Int32) : ∀ n k, (pSet F n / 2 ^ k % 2 = 1 ↔ k < n ∧ F k 6 = 0)
  | 0, k => by
    rw [show pSet F 0 = 0 from rfl, Nat.zero_div]; omega
  | n + 1, k => by
    have ih := pSet_bit F n k
    have hl := pSet_lt F n
    simp only [pSet]
    by_cases h : F n 6 = 0
    · rw [if_pos h, bitN_add hl]
      by_cases hk : k = n
      · subst hk
        rw [if_pos rfl, bit_hi hl (Nat.le_refl _)]
        exact ⟨fun _ => ⟨by omega, h⟩, fun _ => rfl⟩
      · rw [if_neg hk, Nat.add_zero, ih]
        exact ⟨fun q => ⟨by omega, q.2⟩, fun q => ⟨by omega, q.2⟩⟩
    · rw [if_neg h, ih]
      refine ⟨fun q => ⟨by omega, q.2⟩, fun q => ⟨?_, q.2⟩⟩
      by_cases hk : k = n
      · subst hk; exact absurd q.2 h
      · omega
theorem isTk_cg {F : Nat → Nat → Int32} {m m2 : Nat} : ∀ i, (∀ k, k < i → m / 2 ^ k % 2 = m2 / 2 ^ k % 2) → isTk F m i = isTk F m2 i
  | 0, _ => rfl
  | i + 1, h => by
    simp only [isTk]
    rw [isTk_cg i (fun k hk => h k (by omega)), h i (by omega)]
theorem isTk_top {F : Nat → Nat → Int32} {x i : Nat} (hx : x < 2 ^ i) : isTk F (x + 2 ^ i) i = isTk F x i :=
  isTk_cg i (fun k hk => by rw [bitN_add hx, if_neg (by omega)]; rfl)
theorem isTk_up {F : Nat → Nat → Int32} {x i : Nat} (hx : x < 2 ^ i) : ∀ k, isTk F x (i + k) = isTk F x i
  | 0 => rfl
  | k + 1 => by
    rw [show i + (k + 1) = (i + k) + 1 by omega, isTk_skip (by rw [bit_hi hx (by omega)]; decide)]
    exact isTk_up hx k
theorem isTk_zero (F : Nat → Nat → Int32) : ∀ i, isTk F 0 i = some none
  | 0 => rfl
  | i + 1 => by rw [isTk_skip (by rw [Nat.zero_div]; decide)]; exact isTk_zero F i
def key (m : Nat) : Nat := 4096 * popc m + m
theorem key_top {x i : Nat} (hx : x < 2 ^ i) (hi : i < 12) : key (x + 2 ^ i) = key x + 4096 + 2 ^ i := by
  unfold key; rw [popc_top hx hi, Nat.mul_add]; omega
theorem pTab_o {F : Nat → Nat → Int32} {i k : Nat} (h : k ≠ i) : pTab F (i + 1) k = pTab F i k := by
  simp only [pTab]
  split
  · exact if_neg h
  · rfl
theorem pTab_up {F : Nat → Nat → Int32} {i : Nat} : ∀ k, pTab F (i + 1 + k) i = pTab F (i + 1) i
  | 0 => rfl
  | k + 1 => by
    rw [show i + 1 + (k + 1) = (i + 1 + k) + 1 by omega, pTab_o (by omega)]
    exact pTab_up k
theorem pTab_at {F : Nat → Nat → Int32} {i : Nat} (h : F i 6 = 0) : pTab F (i + 1) i = pBAt (pTab F i) F i i + 4096 + 2 ^ i := by
  simp only [pTab]; rw [if_pos h]; exact if_pos rfl
theorem pBAt_ge {t : Nat → Nat} {F : Nat → Nat → Int32} {f a : Nat} : ∀ k, a < k → F a 6 = 0 → pAns (F f) (F a) = true → t a ≤ pBAt t F f k
  | 0, h, _, _ => absurd h (Nat.not_lt_zero _)
  | k + 1, h, h6, hp => by
    by_cases e : a = k
    · subst e
      simp only [pBAt]; rw [if_pos h6, if_pos hp]; exact Nat.le_max_right _ _
    · have ih := pBAt_ge (t := t) k (by omega) h6 hp
      simp only [pBAt]; (repeat' split) <;> omega
theorem pBAt_is {t : Nat → Nat} {F : Nat → Nat → Int32} {f : Nat} : ∀ k, pBAt t F f k = 0 ∨ ∃ a, a < k ∧ F a 6 = 0 ∧ pAns (F f) (F a) = true ∧ pBAt t F f k = t a
  | 0 => Or.inl rfl
  | k + 1 => by
    have ih := pBAt_is (t := t) (F := F) (f := f) k
    simp only [pBAt]
    have go : pBAt t F f k = 0 ∨ ∃ a, a < k + 1 ∧ F a 6 = 0 ∧ pAns (F f) (F a) = true ∧ pBAt t F f k = t a := by
      rcases ih with q | ⟨a, a1, a2, a3, a4⟩
      · exact Or.inl q
      · exact Or.inr ⟨a, by omega, a2, a3, a4⟩
    split
    · rename_i h6
      split
      · rename_i hp
        by_cases hm : t k ≤ pBAt t F f k
        · rw [Nat.max_eq_left hm]; exact go
        · rw [Nat.max_eq_right (by omega)]; exact Or.inr ⟨k, by omega, h6, hp, rfl⟩
      · exact go
    · exact go
theorem top_of {m i : Nat} (hm : m < 2 ^ (i + 1)) (hb : m / 2 ^ i % 2 = 1) : ∃ x, x < 2 ^ i ∧ m = x + 2 ^ i := by
  rw [Nat.pow_succ] at hm
  rcases Nat.lt_or_ge m (2 ^ i) with q | q
  · rw [bit_hi q (Nat.le_refl _)] at hb; exact absurd hb (by decide)
  · exact ⟨m - 2 ^ i, by omega, by omega⟩
theorem lt_of_bit {m i : Nat} (hm : m < 2 ^ (i + 1)) (hb : ¬ m / 2 ^ i % 2 = 1) : m < 2 ^ i := by
  rcases Nat.lt_or_ge m (2 ^ i) with q | q
  · exact q
  · rw [Nat.pow_succ] at hm
    have e : m = (m - 2 ^ i) + 2 ^ i := by omega
    have e2 := bitN_add (x := m - 2 ^ i) (i := i) (by omega) i
    rw [← e, if_pos rfl, bit_hi (x := m - 2 ^ i) (i := i) (by omega) (Nat.le_refl _)] at e2
    exact absurd e2 hb
/-- no chain is worth more than the table says of its last one -/
theorem tab_up {F : Nat → Nat → Int32} : ∀ i, i ≤ 12 → ∀ m, m < 2 ^ i → (∀ k, k < i → m / 2 ^ k % 2 = 1 → F k 6 = 0) → ∀ q, isTk F m i = some q → (q = none → m = 0) ∧ ∀ a, q = some a → key m ≤ pTab F (a + 1) a
  | 0, _, m, hm, _, q, hq => by
    have e : q = none := (Option.some.inj hq).symm
    exact ⟨fun _ => by omega, fun a h => by rw [e] at h; cases h⟩
  | i + 1, hi, m, hm, hs, q, hq => by
    by_cases hb : m / 2 ^ i % 2 = 1
    · obtain ⟨x, hx, rfl⟩ := top_of hm hb
      have h6 := hs i (by omega) hb
      have ih := tab_up i (by omega) x hx (fun k hk hk2 => hs k (by omega) (by rw [bitN_add hx, if_neg (by omega)]; exact hk2))
      have e := isTk_top (F := F) hx
      cases hp : isTk F x i with
      | none =>
        rw [hp] at e
        have := isTk_no e 1; rw [this] at hq; cases hq
      | some p =>
        rw [hp] at e
        have ih2 := ih p hp
        cases p with
        | none =>
          rw [isTk_fst hb e] at hq
          have eq : q = some i := (Option.some.inj hq).symm
          refine ⟨fun z => (by rw [eq] at z; cases z), fun a z => ?_⟩
          rw [eq] at z
          have ea := Option.some.inj z; subst ea
          rw [key_top hx (by omega), ih2.1 rfl, pTab_at h6]
          have : key 0 = 0 := rfl
          omega
        | some b =>
          have hbl := isTk_lt F x i b hp
          cases hA : pAns (F i) (F b) with
          | false => rw [isTk_bad hb e hA] at hq; cases hq
          | true =>
            rw [isTk_ans hb e hA] at hq
            have eq : q = some i := (Option.some.inj hq).symm
            refine ⟨fun z => (by rw [eq] at z; cases z), fun a z => ?_⟩
            rw [eq] at z
            have ea := Option.some.inj z; subst ea
            have hb6 : F b 6 = 0 := hs b (by omega) (by rw [bitN_add hx, if_neg (by omega)]; exact hbl.2)
            have h1 := ih2.2 b rfl
            have h2 := pBAt_ge (t := pTab F i) (f := i) i hbl.1 hb6 hA
            have h3 : pTab F i b = pTab F (b + 1) b := by
              have := pTab_up (F := F) (i := b) (i - (b + 1))
              rw [show b + 1 + (i - (b + 1)) = i by omega] at this; exact this
            rw [key_top hx (by omega), pTab_at h6]; omega
    · have hm2 := lt_of_bit hm hb
      rw [isTk_skip hb] at hq
      exact tab_up i (by omega) m hm2 (fun k hk => hs k (by omega)) q hq
/-- and one is worth just that -/
theorem tab_is {F : Nat → Nat → Int32} : ∀ i, i < 12 → F i 6 = 0 → ∃ m, m < 2 ^ (i + 1) ∧ (∀ k, m / 2 ^ k % 2 = 1 → F k 6 = 0) ∧ isTk F m (i + 1) = some (some i) ∧ key m = pTab F (i + 1) i := by
  intro i
  induction i using Nat.strongRecOn with
  | ind i ih =>
    intro hi h6
    rw [pTab_at h6]
    have hb : ∀ x, x < 2 ^ i → (x + 2 ^ i) / 2 ^ i % 2 = 1 := fun x hx => by rw [bitN_add hx, if_pos rfl, bit_hi hx (Nat.le_refl _)]
    have lt2 : ∀ x, x < 2 ^ i → x + 2 ^ i < 2 ^ (i + 1) := fun x hx => by rw [Nat.pow_succ]; omega
    have bits : ∀ x, x < 2 ^ i → (∀ k, x / 2 ^ k % 2 = 1 → F k 6 = 0) → ∀ k, (x + 2 ^ i) / 2 ^ k % 2 = 1 → F k 6 = 0 := fun x hx hs k hk => by
      rw [bitN_add hx] at hk
      by_cases e : k = i
      · subst e; exact h6
      · rw [if_neg e, Nat.add_zero] at hk; exact hs k hk
    have p0 : 0 < 2 ^ i := Nat.pow_pos (by decide)
    rcases pBAt_is (t := pTab F i) (F := F) (f := i) i with q | ⟨a, a1, a2, a3, a4⟩
    · have hx : (0 : Nat) < 2 ^ i := p0
      have e0 : isTk F 0 i = some none := isTk_zero F i
      refine ⟨0 + 2 ^ i, lt2 0 hx, bits 0 hx (fun k hk => by rw [Nat.zero_div] at hk; exact absurd hk (by decide)), isTk_fst (hb 0 hx) ((isTk_top hx).trans e0), ?_⟩
      rw [key_top hx hi, q]; rfl
    · obtain ⟨m, m1, m2, m3, m4⟩ := ih a a1 (by omega) a2
      have hx : m < 2 ^ i := Nat.lt_of_lt_of_le m1 (Nat.pow_le_pow_right (by decide) (by omega))
      have e1 : isTk F m i = some (some a) := by
        have := isTk_up (F := F) m1 (i - (a + 1))
        rw [show a + 1 + (i - (a + 1)) = i by omega] at this; exact this.trans m3
      have h3 : pTab F i a = pTab F (a + 1) a := by
        have := pTab_up (F := F) (i := a) (i - (a + 1))
        rw [show a + 1 + (i - (a + 1)) = i by omega] at this; exact this
      refine ⟨m + 2 ^ i, lt2 m hx, bits m hx m2, isTk_ans (hb m hx) ((isTk_top hx).trans e1) a3, ?_⟩
      rw [key_top hx hi, a4, h3, m4]
theorem bst_up {F : Nat → Nat → Int32} {a : Nat} : ∀ n, a < n → F a 6 = 0 → pTab F (a + 1) a ≤ pBst F n
  | 0, h, _ => absurd h (Nat.not_lt_zero _)
  | n + 1, h, h6 => by
    by_cases e : a = n
    · subst e; simp only [pBst]; rw [if_pos h6]; exact Nat.le_max_right _ _
    · have ih := bst_up n (by omega) h6
      simp only [pBst]; split <;> omega
theorem bst_is {F : Nat → Nat → Int32} : ∀ n, pBst F n = 0 ∨ ∃ a, a < n ∧ F a 6 = 0 ∧ pBst F n = pTab F (a + 1) a
  | 0 => Or.inl rfl
  | n + 1 => by
    have ih := bst_is (F := F) n
    have go : pBst F n = 0 ∨ ∃ a, a < n + 1 ∧ F a 6 = 0 ∧ pBst F n = pTab F (a + 1) a := by
      rcases ih with q | ⟨a, a1, a2, a3⟩
      · exact Or.inl q
      · exact Or.inr ⟨a, by omega, a2, a3⟩
    simp only [pBst]
    split
    · rename_i h6
      by_cases hm : pTab F (n + 1) n ≤ pBst F n
      · rw [Nat.max_eq_left hm]; exact go
      · rw [Nat.max_eq_right (by omega)]; exact Or.inr ⟨n, by omega, h6, rfl⟩
    · exact go
/-- the chains -/
def inK (F : Nat → Nat → Int32) (n m : Nat) : Prop := sub12 m (pSet F n) ∧ m < 4096 ∧ (isTk F m n).isSome = true
theorem inK_lt {F : Nat → Nat → Int32} {n m : Nat} (hn : n ≤ 12) (h : inK F n m) : m < 2 ^ n := by
  have e : bs m 12 = bs m n := by
    have : ∀ k, n ≤ k → k ≤ 12 → bs m k = bs m n := by
      intro k h1 h2
      induction k with
      | zero => rw [show n = 0 by omega]
      | succ k ih =>
        by_cases q : n = k + 1
        · rw [q]
        · simp only [bs]
          rw [ih (by omega) (by omega)]
          rcases bit_01 m k with z | z
          · rw [z]; rfl
          · have := (pSet_bit F n k).mp (h.1 k (by omega) z); omega
    exact this 12 hn (Nat.le_refl _)
  rw [bs_id (k := 12) h.2.1, bs_mod] at e
  rw [e]; exact Nat.mod_lt _ (Nat.pow_pos (by decide))
theorem key_lt {a b : Nat} (ha : a < 4096) (hb : b < 4096) (h : key a ≤ key b) : popc a < popc b ∨ (popc a = popc b ∧ a ≤ b) := by
  unfold key at h; omega
theorem inK_le {F : Nat → Nat → Int32} {n m : Nat} (hn : n ≤ 12) (h : inK F n m) : key m ≤ pBst F n := by
  have hl := inK_lt hn h
  have hs : ∀ k, k < n → m / 2 ^ k % 2 = 1 → F k 6 = 0 := fun k hk q => ((pSet_bit F n k).mp (h.1 k (by omega) q)).2
  cases hq : isTk F m n with
  | none => have := h.2.2; rw [hq] at this; cases this
  | some q =>
    have hu := tab_up n hn m hl hs q hq
    cases q with
    | none => rw [hu.1 rfl]; exact Nat.zero_le _
    | some a =>
      have ha := isTk_lt F m n a hq
      exact Nat.le_trans (hu.2 a rfl) (bst_up n ha.1 (hs a ha.1 ha.2))
theorem inK_best {F : Nat → Nat → Int32} {n : Nat} (hn : n ≤ 12) : ∃ m, inK F n m ∧ key m = pBst F n := by
  rcases bst_is (F := F) n with q | ⟨a, a1, a2, a3⟩
  · refine ⟨0, ⟨fun i _ h => ?_, by decide, ?_⟩, ?_⟩
    · rw [Nat.zero_div] at h; exact absurd h (by decide)
    · rw [isTk_zero]; rfl
    · rw [q]; rfl
  · obtain ⟨m, m1, m2, m3, m4⟩ := tab_is a (by omega) a2
    refine ⟨m, ⟨fun i hi h => (pSet_bit F n i).mpr ⟨?_, m2 i h⟩, Nat.lt_of_lt_of_le m1 (Nat.le_trans (Nat.pow_le_pow_right (by decide) (show a + 1 ≤ 12 by omega)) (by decide)), ?_⟩, m4.trans a3.symm⟩
    · rcases Nat.lt_or_ge i (a + 1) with q | q
      · omega
      · rw [bit_hi m1 q] at h; exact absurd h (by decide)
    · have := isTk_up (F := F) m1 (n - (a + 1))
      rw [show a + 1 + (n - (a + 1)) = n by omega, m3] at this; rw [this]; rfl
theorem fwB_spec {A : Nat} {P : Nat → Bool} : ∀ j b, (fwB A P j b = b ∨ (fwB A P j b < j ∧ ((fwB A P j b) &&& (4095 ^^^ A)) = 0 ∧ P (A &&& (4095 ^^^ fwB A P j b)) = true)) ∧ popc (fwB A P j b) ≤ popc b ∧ ∀ g, g < j → (g &&& (4095 ^^^ A)) = 0 → P (A &&& (4095 ^^^ g)) = true → popc (fwB A P j b) < popc g ∨ (popc (fwB A P j b) = popc g ∧ fwB A P j b ≤ g)
  | 0, b => ⟨Or.inl rfl, Nat.le_refl _, fun g hg => absurd hg (Nat.not_lt_zero _)⟩
  | j + 1, b => by
    by_cases h : (j &&& (4095 ^^^ A)) = 0 ∧ popc j ≤ popc b ∧ P (A &&& (4095 ^^^ j)) = true
    · have e := fwB_y h.1 h.2.1 h.2.2
      obtain ⟨i1, i2, i3⟩ := fwB_spec (A := A) (P := P) j j
      rw [e]
      refine ⟨?_, Nat.le_trans i2 h.2.1, fun g hg g1 g2 => ?_⟩
      · rcases i1 with q | q
        · rw [q]; exact Or.inr ⟨by omega, h.1, h.2.2⟩
        · exact Or.inr ⟨by omega, q.2⟩
      · by_cases eg : g = j
        · subst eg
          rcases i1 with q | q
          · rw [q]; exact Or.inr ⟨rfl, Nat.le_refl _⟩
          · rcases Nat.lt_or_ge (popc (fwB A P g g)) (popc g) with z | z
            · exact Or.inl z
            · exact Or.inr ⟨by omega, by omega⟩
        · exact i3 g (by omega) g1 g2
    · have e := fwB_n h
      obtain ⟨i1, i2, i3⟩ := fwB_spec (A := A) (P := P) j b
      rw [e]
      refine ⟨?_, i2, fun g hg g1 g2 => ?_⟩
      · rcases i1 with q | q
        · exact Or.inl q
        · exact Or.inr ⟨by omega, q.2⟩
      · by_cases eg : g = j
        · subst eg
          rcases Nat.lt_or_ge (popc b) (popc g) with z | z
          · exact Or.inl (by omega)
          · exact absurd ⟨g1, z, g2⟩ h
        · exact i3 g (by omega) g1 g2
theorem fewest_eq (F : Nat → Nat → Int32) {n : Nat} (hn : n ≤ 12) : fwB (pSet F n) (fun m => (isTk F m n).isSome) (pSet F n + 1) (pSet F n) = (pSet F n &&& (4095 ^^^ (pBst F n % 4096))) := by
  have hA : pSet F n < 4096 := Nat.lt_of_lt_of_le (pSet_lt F n) (Nat.pow_le_pow_right (n := 2) (i := n) (j := 12) (by decide) hn)
  obtain ⟨m, hm, ek⟩ := inK_best (F := F) hn
  have em : pBst F n % 4096 = m := by
    rw [← ek]; unfold key; have := hm.2.1; omega
  rw [em]
  have hle := fun x => inK_le (F := F) (m := x) hn
  rw [← ek] at hle
  generalize hAe : pSet F n = A at *
  have hmA : sub12 m A := by have := hm.1; rw [hAe] at this; exact this
  obtain ⟨i1, i2, i3⟩ := fwB_spec (A := A) (P := fun m => (isTk F m n).isSome) (A + 1) A
  generalize hr : fwB A (fun m => (isTk F m n).isSome) (A + 1) A = r at *
  have good : sub12 r A ∧ r ≤ A ∧ (isTk F (A &&& (4095 ^^^ r)) n).isSome = true := by
    rcases i1 with q | q
    · subst q
      refine ⟨fun i _ h => h, Nat.le_refl _, ?_⟩
      have e0 : (r &&& (4095 ^^^ r)) = 0 := sub12_to hA (fun i _ h => h)
      rw [e0, isTk_zero]; rfl
    · exact ⟨sub12_of q.2.1, by omega, q.2.2⟩
  have hr4 : r < 4096 := by omega
  have s1 := cmp_sum hA hr4 good.1
  have s2 := cmp_popc good.1
  have s3 := cmp_sum hA hm.2.1 hmA
  have s4 := cmp_popc hmA
  have kr : inK F n (A &&& (4095 ^^^ r)) := ⟨by
    rw [hAe]
    intro i hi q
    rw [bit_and hi] at q
    by_cases z : A / 2 ^ i % 2 = 1 ∧ ¬ r / 2 ^ i % 2 = 1
    · exact z.1
    · rw [if_neg z] at q; exact absurd q (by decide), andn_lt hA, good.2.2⟩
  have k1 := key_lt (andn_lt hA) hm.2.1 (hle _ kr)
  have xs : sub12 (A &&& (4095 ^^^ m)) A := by
    intro i hi q
    rw [bit_and hi] at q
    by_cases z : A / 2 ^ i % 2 = 1 ∧ ¬ m / 2 ^ i % 2 = 1
    · exact z.1
    · rw [if_neg z] at q; exact absurd q (by decide)
  have k2 := i3 (A &&& (4095 ^^^ m)) (by omega) (sub12_to (andn_lt hA) xs) (by
    show (isTk F (A &&& (4095 ^^^ (A &&& (4095 ^^^ m)))) n).isSome = true
    rw [cmp_cmp hA hm.2.1 hmA]; exact hm.2.2)
  omega
