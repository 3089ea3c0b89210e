-- texts: the pure reader, by what stands at a place (sg)
abbrev PS : Type := Nat × Nat × (Nat → Int32)
abbrev PR : Type := Bool × PS
def psAdd (s : PS) (x : Int32) : PS := if s.2.1 < 60 then (s.1, s.2.1 + 1, upd s.2.2 s.2.1 x) else s
def psGo (s : PS) : PS := (s.1 + 1, s.2)
def isDg (x : Int32) : Bool := decide (48 ≤ x) && decide (x ≤ 57)
def pLvl (x : Int32) : Int32 := if x = 124 then 0 else if x = 38 then 1 else if x = 60 ∨ x = 61 ∨ x = 62 then 2 else if x = 43 ∨ x = 45 then 3 else if x = 42 ∨ x = 47 ∨ x = 37 then 4 else -1
def pNum (sg : Nat → Int32) : Nat → Nat → Int32 → Nat × Int32
  | 0, p, v => (p, v)
  | k + 1, p, v => if isDg (sg p) then pNum sg k (p + 1) (10 * v + sg p - 48) else (p, v)
def nmc (u i : Nat) : Int32 := ([97, 98, 107, 108, 99, 100] : List Int32).getD (3 * u + i) 0
def pName (u : Nat) (x : Int32) : Option Nat := if nmc u 0 = x then some 0 else if nmc u 1 = x then some 1 else if nmc u 2 = x then some 2 else none
def nmS (s : PS) : Option Nat → PS
  | some i => psGo (psAdd s (-1 - nI i))
  | none => s
def pLoopJ (sg : Nat → Int32) (op : PS → PR) (lv : Int32) : Nat → PS → PR
  | 0, s => (true, s)
  | k + 1, s => if pLvl (sg s.1) = lv then (if (op (psGo s)).1 then pLoopJ sg op lv k (psAdd (op (psGo s)).2 (-(sg s.1))) else (false, (op (psGo s)).2)) else (true, s)
def pJd (sg : Nat → Int32) (sng : PS → PR) : Nat → PS → PR
  | 0, s => sng s
  | j + 1, s => if (pJd sg sng j s).1 then pLoopJ sg (pJd sg sng j) (nI (5 - (j + 1))) (if 5 - (j + 1) = 2 then 1 else 60) (pJd sg sng j s).2 else (false, (pJd sg sng j s).2)
def pDig (sg : Nat → Int32) (s : PS) : PR := (true, psAdd ((pNum sg 4 s.1 0).1, s.2) (pNum sg 4 s.1 0).2)
def pSg (sg : Nat → Int32) (u : Nat) : Nat → PS → PR
  | 0, s => if isDg (sg s.1) then pDig sg s else if sg s.1 = 33 ∨ sg s.1 = 40 then (false, s) else ((pName u (sg s.1)).isSome, nmS s (pName u (sg s.1)))
  | od + 1, s => if isDg (sg s.1) then pDig sg s else if sg s.1 = 33 then (if (pSg sg u od (psGo s)).1 then (true, psAdd (pSg sg u od (psGo s)).2 (-33)) else (false, (pSg sg u od (psGo s)).2))
      else if sg s.1 = 40 then (if (pJd sg (pSg sg u od) 5 (psGo s)).1 = true ∧ sg (pJd sg (pSg sg u od) 5 (psGo s)).2.1 = 41 then (true, psGo (pJd sg (pSg sg u od) 5 (psGo s)).2) else (false, (pJd sg (pSg sg u od) 5 (psGo s)).2))
      else ((pName u (sg s.1)).isSome, nmS s (pName u (sg s.1)))
def pParse (sg : Nat → Int32) (u : Nat) (f : Nat → Int32) : PR := pJd sg (pSg sg u 5) 5 (0, 0, f)
/-- what stands at a place of a tape of n bytes; behind it 0 -/
def sgC (f : Nat → Int32) (n p : Nat) : Int32 := if p < n then f p else 0
def okS (n : Nat) (s : PS) : Prop := s.1 ≤ n ∧ s.2.1 ≤ 60
theorem psAdd_1 (s : PS) (x : Int32) : (psAdd s x).1 = s.1 := by unfold psAdd; split <;> rfl
theorem psAdd_ok {n : Nat} {s : PS} (x : Int32) (h : okS n s) : okS n (psAdd s x) := by
  refine ⟨by rw [psAdd_1]; exact h.1, ?_⟩
  unfold psAdd; split
  · show s.2.1 + 1 ≤ 60; omega
  · exact h.2
/-- only a byte of the tape is neither 0 nor behind it -/
def sgEnd (sg : Nat → Int32) (n : Nat) : Prop := ∀ p, n ≤ p → isDg (sg p) = false ∧ pLvl (sg p) = -1 ∧ ¬ sg p = 33 ∧ ¬ sg p = 40 ∧ ¬ sg p = 41 ∧ ∀ u, u < 2 → pName u (sg p) = none
theorem sgC_end (f : Nat → Int32) (n : Nat) : sgEnd (sgC f n) n := by
  intro p hp
  have e : sgC f n p = 0 := if_neg (by omega)
  rw [e]
  refine ⟨by decide, by decide, by decide, by decide, by decide, fun u hu => ?_⟩
  rcases (show u = 0 ∨ u = 1 by omega) with rfl | rfl <;> decide
theorem pNum_in {sg : Nat → Int32} {n : Nat} (he : sgEnd sg n) : ∀ (k p : Nat) (v : Int32), p ≤ n → p ≤ (pNum sg k p v).1 ∧ (pNum sg k p v).1 ≤ n
  | 0, p, v, h => ⟨Nat.le_refl _, h⟩
  | k + 1, p, v, h => by
    simp only [pNum]
    split
    · rename_i hd
      have hp : p < n := by
        rcases Nat.lt_or_ge p n with q | q
        · exact q
        · rw [(he p q).1] at hd; cases hd
      have := pNum_in he k (p + 1) (10 * v + sg p - 48) (by omega)
      omega
    · exact ⟨Nat.le_refl _, h⟩
theorem lvl_in {sg : Nat → Int32} {n p L : Nat} (he : sgEnd sg n) (hL : L ≤ 5) (h : pLvl (sg p) = nI L) : p < n := by
  rcases Nat.lt_or_ge p n with q | q
  · exact q
  · rw [(he p q).2.1] at h
    rcases (show L = 0 ∨ L = 1 ∨ L = 2 ∨ L = 3 ∨ L = 4 ∨ L = 5 by omega) with rfl | rfl | rfl | rfl | rfl | rfl <;> exact absurd h (by decide)
theorem at_in {sg : Nat → Int32} {n p : Nat} (he : sgEnd sg n) (h : sg p = 33 ∨ sg p = 40 ∨ sg p = 41) : p < n := by
  rcases Nat.lt_or_ge p n with q | q
  · exact q
  · obtain ⟨-, -, a, b, c, -⟩ := he p q
    rcases h with h | h | h
    · exact absurd h a
    · exact absurd h b
    · exact absurd h c
theorem pLoopJ_ok {sg : Nat → Int32} {n L : Nat} (he : sgEnd sg n) (hL : L ≤ 5) {op : PS → PR} (hop : ∀ s, okS n s → okS n (op s).2) : ∀ (k : Nat) (s : PS), okS n s → okS n (pLoopJ sg op (nI L) k s).2
  | 0, s, h => h
  | k + 1, s, h => by
    simp only [pLoopJ]
    split
    · rename_i hl
      have hp := lvl_in he hL hl
      have h1 : okS n (op (psGo s)).2 := hop _ ⟨hp, h.2⟩
      split
      · exact pLoopJ_ok he hL hop k _ (psAdd_ok _ h1)
      · exact h1
    · exact h
theorem pJd_ok {sg : Nat → Int32} {n : Nat} (he : sgEnd sg n) {sng : PS → PR} (hs : ∀ s, okS n s → okS n (sng s).2) : ∀ (j : Nat), j ≤ 5 → ∀ (s : PS), okS n s → okS n (pJd sg sng j s).2
  | 0, _, s, h => hs s h
  | j + 1, hj, s, h => by
    have h1 := pJd_ok he hs j (by omega) s h
    simp only [pJd]
    split
    · exact pLoopJ_ok he (by omega) (pJd_ok he hs j (by omega)) _ _ h1
    · exact h1
theorem nmS_ok {sg : Nat → Int32} {n u : Nat} (he : sgEnd sg n) (hu : u < 2) {s : PS} (h : okS n s) : okS n (nmS s (pName u (sg s.1))) := by
  rcases Nat.lt_or_ge s.1 n with q | q
  · cases hq : pName u (sg s.1) with
    | none => exact h
    | some i =>
      have h1 := psAdd_ok (-1 - nI i) h
      exact ⟨by show (psAdd s _).1 + 1 ≤ n; rw [psAdd_1]; omega, h1.2⟩
  · rw [(he _ q).2.2.2.2.2 u hu]; exact h
theorem pDig_ok {sg : Nat → Int32} {n : Nat} (he : sgEnd sg n) {s : PS} (h : okS n s) : okS n (pDig sg s).2 :=
  psAdd_ok (s := ((pNum sg 4 s.1 0).1, s.2)) _ ⟨(pNum_in he 4 s.1 0 h.1).2, h.2⟩
theorem pSg_ok {sg : Nat → Int32} {n u : Nat} (he : sgEnd sg n) (hu : u < 2) : ∀ (od : Nat) (s : PS), okS n s → okS n (pSg sg u od s).2
  | 0, s, h => by
    simp only [pSg]
    split
    · exact pDig_ok he h
    · split
      · exact h
      · exact nmS_ok he hu h
  | od + 1, s, h => by
    simp only [pSg]
    split
    · exact pDig_ok he h
    · split
      · rename_i hx
        have h1 := pSg_ok he hu od (psGo s) ⟨at_in he (Or.inl hx), h.2⟩
        split
        · exact psAdd_ok _ h1
        · exact h1
      · split
        · rename_i hx
          have h1 := pJd_ok he (pSg_ok he hu od) 5 (Nat.le_refl _) (psGo s) ⟨at_in he (Or.inr (Or.inl hx)), h.2⟩
          split
          · rename_i h2
            exact ⟨at_in he (Or.inr (Or.inr h2.2)), h1.2⟩
          · exact h1
        · exact nmS_ok he hu h
/-- the class's memory as it reads -/
def rdM (M : Mem) (s : PS) : Mem := mu (mrow (mu M 77 1 (nI s.1)) 56 s.2.2) 51 1 (nI s.2.1)
theorem rdM_p (M : Mem) (s : PS) : rdM M s 77 1 = nI s.1 := by unfold rdM; rw [mu_n _ _ _ (by decide), mrow_n _ _ (by decide), mu_s]
theorem rdM_f (M : Mem) (s : PS) {j : Nat} (h : j ≠ 1) : rdM M s 77 j = M 77 j := by unfold rdM; rw [mu_n _ _ _ (by decide), mrow_n _ _ (by decide), mu_o _ _ _ h]
theorem rdM_z (M : Mem) (s : PS) : rdM M s 51 1 = nI s.2.1 := by unfold rdM; rw [mu_s]
theorem rdM_o (M : Mem) (s : PS) {a : Nat} (h1 : a ≠ 77) (h2 : a ≠ 56) (h3 : a ≠ 51) : rdM M s a = M a := by unfold rdM; rw [mu_n _ _ _ h3, mrow_n _ _ h2, mu_n _ _ _ h1]
theorem rdM_go (M : Mem) (s : PS) : mu (rdM M s) 77 1 (nI (s.1 + 1)) = rdM M (psGo s) := by
  funext a
  by_cases h1 : a = 77
  · subst h1; funext j
    by_cases hj : j = 1
    · subst hj; rw [mu_s, rdM_p]; rfl
    · rw [mu_o _ _ _ hj, rdM_f _ _ hj, rdM_f _ _ hj]
  · rw [mu_n _ _ _ h1]
    unfold rdM psGo
    by_cases h2 : a = 51
    · subst h2; rw [mu_r, mu_r]; simp only [mrow_n _ _ (show (51 : Nat) ≠ 56 by decide), mu_n _ _ _ (show (51 : Nat) ≠ 77 by decide)]
    · rw [mu_n _ _ _ h2, mu_n _ _ _ h2]
      by_cases h3 : a = 56
      · subst h3; rw [mrow_s, mrow_s]
      · rw [mrow_n _ _ h3, mrow_n _ _ h3, mu_n _ _ _ h1, mu_n _ _ _ h1]
theorem rdM_num (M : Mem) (s : PS) (p : Nat) : mu (rdM M s) 77 1 (nI p) = rdM M (p, s.2) := by
  funext a
  by_cases h1 : a = 77
  · subst h1; funext j
    by_cases hj : j = 1
    · subst hj; rw [mu_s, rdM_p]
    · rw [mu_o _ _ _ hj, rdM_f _ _ hj, rdM_f _ _ hj]
  · rw [mu_n _ _ _ h1]
    unfold rdM
    by_cases h2 : a = 51
    · subst h2; rw [mu_r, mu_r]; simp only [mrow_n _ _ (show (51 : Nat) ≠ 56 by decide), mu_n _ _ _ (show (51 : Nat) ≠ 77 by decide)]
    · rw [mu_n _ _ _ h2, mu_n _ _ _ h2]
      by_cases h3 : a = 56
      · subst h3; rw [mrow_s, mrow_s]
      · rw [mrow_n _ _ h3, mrow_n _ _ h3, mu_n _ _ _ h1, mu_n _ _ _ h1]
theorem rdM_add (M : Mem) (s : PS) (x : Int32) (h : s.2.1 < 60) : mu (mu (rdM M s) 56 s.2.1 x) 51 1 (nI (s.2.1 + 1)) = rdM M (psAdd s x) := by
  unfold psAdd; rw [if_pos h]
  funext a
  unfold rdM
  by_cases h2 : a = 51
  · subst h2; funext j
    by_cases hj : j = 1
    · subst hj; rw [mu_s, mu_s]
    · rw [mu_o _ _ _ hj, mu_n _ _ _ (by decide), mu_o _ _ _ hj, mu_o _ _ _ hj]; simp only [mrow_n _ _ (show (51 : Nat) ≠ 56 by decide)]
  · rw [mu_n _ _ _ h2]
    by_cases h3 : a = 56
    · subst h3
      rw [mu_r, mu_n _ _ _ (by decide), mu_n _ _ _ (by decide), mrow_s, mrow_s]
    · rw [mu_n _ _ _ h3, mu_n _ _ _ h2, mu_n _ _ _ h2, mrow_n _ _ h3, mrow_n _ _ h3]
def rdH (M : Mem) (n u : Nat) : Prop := M 77 2 = nI 62 ∧ M 77 3 = nI n ∧ M 77 4 = nI u ∧ n ≤ 60 ∧ u < 2
def rd0 (M : Mem) (n u : Nat) : Mem := mu (mu (mu M 77 2 (nI 62)) 77 3 (nI n)) 77 4 (nI u)
def HS (l : Launch) (g : GT) (od : Nat) : Prop := ∀ (M : Mem) (n u : Nat) (s : PS), rdH M n u → okS n s → CtrE l g yX7_readSingle cX7_readSingle 3 (some .boolean) (8 * od + 3) [.ref (ga g 77), .int (nI (5 - od))] (rdM M s) (b2i (pSg (sgC (M 62) n) u od s).1) (rdM M (pSg (sgC (M 62) n) u od s).2)
def HJ (l : Launch) (g : GT) (od j : Nat) : Prop := ∀ (M : Mem) (n u : Nat) (s : PS), rdH M n u → okS n s → CtrE l g yX7_readJoined cX7_readJoined 6 (some .boolean) (8 * od + 4 + j) [.ref (ga g 77), .int (nI (5 - j)), .int (nI (5 - od))] (rdM M s) (b2i (pJd (sgC (M 62) n) (pSg (sgC (M 62) n) u od) j s).1) (rdM M (pJd (sgC (M 62) n) (pSg (sgC (M 62) n) u od) j s).2)
theorem rd_put (g : GT) (f : Nat → Int32) : cE g 77 (upd f 2 (nI 62)) = .inr (7, [.ref (ga g 51), .int (f 1), .ref (ga g 62), .int (f 3), .int (f 4)]) := by
  rw [ce_77]; simp [upd]; rfl
