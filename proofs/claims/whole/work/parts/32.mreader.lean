-- texts: the reference's reader, its pure words
def smf (row : Nat → Int32) (n p : Nat) : Int32 := if p < n then row (90 + p) else -1
/-- an act and its number say the part p -/
def actOk (a b p : Int32) : Prop := (a = 1 ∧ b = p ∧ 0 ≤ p) ∨ (a = 2 ∧ ∃ i, i < 3 ∧ b = nI i ∧ p = -1 - nI i) ∨ (a = 3 ∧ p = -33) ∨ (isSign a ∧ p = -a)
def rdS (a j : Nat) : Prop := a = 99 ∨ a = 100 ∨ (a = 91 ∧ 12 ≤ j ∧ j ≤ 15)
def mH (M0 : Mem) (n u : Nat) : Prop := M0 92 4 = nI n ∧ n ≤ 60 ∧ M0 91 16 = nI u ∧ u < 2
def mC (M0 M : Mem) (od : Nat) (s : PS) : Prop := M 91 13 = nI s.1 ∧ M 91 12 = nI s.2.1 ∧ (∀ k, k < s.2.1 → actOk (M 99 k) (M 100 k) (s.2.2 k)) ∧ M 91 14 = nI (5 - od) ∧ M 91 15 = 0 ∧ Sc rdS M0 M
def mB (M0 M : Mem) (od : Nat) (s : PS) : Prop := M 91 13 = nI s.1 ∧ (∃ z, z ≤ 60 ∧ M 91 12 = nI z) ∧ M 91 14 = nI (5 - od) ∧ M 91 15 = 1 ∧ Sc rdS M0 M
def mR (M0 M : Mem) (od : Nat) (r : PR) : Prop := (r.1 = true → mC M0 M od r.2) ∧ (r.1 = false → mB M0 M od r.2)
def stM (M : Mem) (z : Nat) (a b : Int32) : Mem := if z < 60 then mu (mu (mu M 99 z a) 100 z b) 91 12 (nI (z + 1)) else M
theorem smf_end (row : Nat → Int32) (n : Nat) : sgEnd (smf row n) n := by
  intro p hp
  have e : smf row n p = -1 := if_neg (by omega)
  rw [e]
  refine ⟨by decide, by decide, by decide, by decide, by decide, fun u hu => ?_⟩
  rcases (show u = 0 ∨ u = 1 by omega) with rfl | rfl <;> decide
theorem Sc_rd_mu {M0 M : Mem} {a j : Nat} {x : Int32} (h : Sc rdS M0 M) (hs : rdS a j) : Sc rdS M0 (mu M a j x) := by
  intro b k hb
  rw [mu_at, if_neg (fun q => hb (by rw [q.1, q.2]; exact hs))]
  exact h b k hb
theorem mC_go {M0 M : Mem} {od : Nat} {s : PS} (h : mC M0 M od s) : mC M0 (mu M 91 13 (nI (s.1 + 1))) od (psGo s) := by
  obtain ⟨h1, h2, h3, h4, h5, h6⟩ := h
  refine ⟨by rw [mu_s]; rfl, by rw [mu_o _ _ _ (by decide)]; exact h2, fun k hk => ?_, by rw [mu_o _ _ _ (by decide)]; exact h4, by rw [mu_o _ _ _ (by decide)]; exact h5, Sc_rd_mu h6 (Or.inr (Or.inr ⟨rfl, by decide, by decide⟩))⟩
  rw [mu_n _ _ _ (by decide), mu_n _ _ _ (by decide)]; exact h3 k hk
theorem stM_91 (M : Mem) (z : Nat) (a b : Int32) {j : Nat} (h : j ≠ 12) : stM M z a b 91 j = M 91 j := by
  unfold stM; split
  · rw [mu_o _ _ _ h, mu_n _ _ _ (by decide), mu_n _ _ _ (by decide)]
  · rfl
theorem stM_Sc {M0 M : Mem} (h : Sc rdS M0 M) (z : Nat) (a b : Int32) : Sc rdS M0 (stM M z a b) := by
  unfold stM; split
  · exact Sc_rd_mu (Sc_rd_mu (Sc_rd_mu h (Or.inl rfl)) (Or.inr (Or.inl rfl))) (Or.inr (Or.inr ⟨rfl, by decide, by decide⟩))
  · exact h
theorem mC_add {M0 M : Mem} {od : Nat} {s : PS} (h : mC M0 M od s) (a b x : Int32) (hx : actOk a b x) : mC M0 (stM M s.2.1 a b) od (psAdd s x) := by
  obtain ⟨h1, h2, h3, h4, h5, h6⟩ := h
  refine ⟨by rw [stM_91 _ _ _ _ (by decide), psAdd_1]; exact h1, ?_, ?_, by rw [stM_91 _ _ _ _ (by decide)]; exact h4, by rw [stM_91 _ _ _ _ (by decide)]; exact h5, stM_Sc h6 _ _ _⟩
  · unfold stM psAdd; split
    · rw [mu_s]
    · exact h2
  · unfold stM psAdd; split
    · intro k hk
      have hk : k < s.2.1 + 1 := hk
      simp only [mu_n _ _ _ (show (99 : Nat) ≠ 91 by decide), mu_n _ _ _ (show (100 : Nat) ≠ 91 by decide), mu_n _ _ _ (show (99 : Nat) ≠ 100 by decide)]
      show actOk _ _ (upd s.2.2 s.2.1 x k)
      unfold upd
      by_cases e : k = s.2.1
      · subst e; rw [mu_s, mu_s, if_pos rfl]; exact hx
      · rw [mu_o _ _ _ e, mu_o _ _ _ e, if_neg e, mu_n _ _ _ (by decide)]; exact h3 k (by omega)
    · exact h3
theorem mB_add {M0 M : Mem} {od : Nat} {s : PS} (h : mB M0 M od s) {z : Nat} (hz : z ≤ 60) (h12 : M 91 12 = nI z) (a b : Int32) : mB M0 (stM M z a b) od s := by
  obtain ⟨h1, -, h4, h5, h6⟩ := h
  refine ⟨by rw [stM_91 _ _ _ _ (by decide)]; exact h1, ?_, by rw [stM_91 _ _ _ _ (by decide)]; exact h4, by rw [stM_91 _ _ _ _ (by decide)]; exact h5, stM_Sc h6 _ _ _⟩
  unfold stM; split
  · exact ⟨z + 1, by omega, mu_s _ _ _ _⟩
  · exact ⟨z, hz, h12⟩
theorem psAdd_go (s : PS) (x : Int32) : psAdd (psGo s) x = psGo (psAdd s x) := by unfold psAdd psGo; simp only; split <;> rfl
theorem pName_dg {u : Nat} (hu : u < 2) {x : Int32} {i : Nat} (h : pName u x = some i) : isDg x = false ∧ ¬ x = 33 ∧ ¬ x = 40 ∧ i < 3 := by
  have key : ∀ c : Int32, c = x → isDg c = false ∧ ¬ c = 33 ∧ ¬ c = 40 → isDg x = false ∧ ¬ x = 33 ∧ ¬ x = 40 := fun c e h => e ▸ h
  unfold pName at h
  rcases (show u = 0 ∨ u = 1 by omega) with rfl | rfl <;>
  · split at h
    · rename_i e; cases h; have := key _ e (by decide); exact ⟨this.1, this.2.1, this.2.2, by decide⟩
    · split at h
      · rename_i e; cases h; have := key _ e (by decide); exact ⟨this.1, this.2.1, this.2.2, by decide⟩
      · split at h
        · rename_i e; cases h; have := key _ e (by decide); exact ⟨this.1, this.2.1, this.2.2, by decide⟩
        · cases h
theorem pLoopJ_mono {sg : Nat → Int32} {op : PS → PR} (lv : Int32) (hop : ∀ s : PS, s.1 ≤ (op s).2.1) : ∀ (k : Nat) (s : PS), s.1 ≤ (pLoopJ sg op lv k s).2.1
  | 0, s => Nat.le_refl _
  | k + 1, s => by
    have h1 := hop (psGo s)
    have h0 : (psGo s).1 = s.1 + 1 := rfl
    simp only [pLoopJ]
    split
    · split
      · have := pLoopJ_mono (sg := sg) lv hop k (psAdd (op (psGo s)).2 (-(sg s.1)))
        rw [psAdd_1] at this; omega
      · simp only; omega
    · exact Nat.le_refl _
theorem pJd_mono {sg : Nat → Int32} {sng : PS → PR} (hs : ∀ s : PS, s.1 ≤ (sng s).2.1) : ∀ (j : Nat) (s : PS), s.1 ≤ (pJd sg sng j s).2.1
  | 0, s => hs s
  | j + 1, s => by
    have h1 := pJd_mono (sg := sg) hs j s
    simp only [pJd]
    split
    · exact Nat.le_trans h1 (pLoopJ_mono _ (pJd_mono hs j) _ _)
    · exact h1
theorem pNum_mono (sg : Nat → Int32) : ∀ (k p : Nat) (v : Int32), p ≤ (pNum sg k p v).1
  | 0, p, v => Nat.le_refl _
  | k + 1, p, v => by
    simp only [pNum]; split
    · have := pNum_mono sg k (p + 1) (10 * v + sg p - 48); omega
    · exact Nat.le_refl _
theorem nmS_mono (s : PS) (o : Option Nat) : s.1 ≤ (nmS s o).1 := by
  cases o with
  | none => exact Nat.le_refl _
  | some i => show s.1 ≤ (psAdd s _).1 + 1; rw [psAdd_1]; omega
theorem pDig_mono (sg : Nat → Int32) (s : PS) : s.1 ≤ (pDig sg s).2.1 := by
  unfold pDig; simp only; rw [psAdd_1]; exact pNum_mono sg 4 s.1 0
theorem pSg_mono (sg : Nat → Int32) (u : Nat) : ∀ (od : Nat) (s : PS), s.1 ≤ (pSg sg u od s).2.1
  | 0, s => by
    simp only [pSg]; split
    · exact pDig_mono sg s
    · split
      · exact Nat.le_refl _
      · exact nmS_mono s _
  | od + 1, s => by
    have h1 := pSg_mono sg u od (psGo s)
    have h2 := pJd_mono (sg := sg) (pSg_mono sg u od) 5 (psGo s)
    have h0 : (psGo s).1 = s.1 + 1 := rfl
    simp only [pSg]; split
    · exact pDig_mono sg s
    · split
      · split
        · simp only; rw [psAdd_1]; omega
        · simp only; omega
      · split
        · split
          · show s.1 ≤ (pJd sg (pSg sg u od) 5 (psGo s)).2.1 + 1; omega
          · simp only; omega
        · exact nmS_mono s _
def HSm (l : Launch) (g : GT) (od : Nat) : Prop := ∀ (M0 M : Mem) (n u : Nat) (s : PS), mH M0 n u → okS n s → mC M0 M od s → CtrV l g yX10_one cX10_one 3 (8 * od + 3) [.ref (ga g 91)] M (fun M1 => mR M0 M1 od (pSg (smf (M0 92) n) u od s))
theorem lvl_4 {x : Int32} (h1 : ¬ x = 42) (h2 : ¬ x = 47) (h3 : ¬ x = 37) : ¬ pLvl x = 4 := by
  unfold pLvl; (repeat' split) <;> simp_all
theorem lvl_3 {x : Int32} (h1 : ¬ x = 43) (h2 : ¬ x = 45) : ¬ pLvl x = 3 := by
  unfold pLvl; (repeat' split) <;> simp_all
theorem lvl_2 {x : Int32} (h1 : ¬ x = 60) (h2 : ¬ x = 61) (h3 : ¬ x = 62) : ¬ pLvl x = 2 := by
  unfold pLvl; (repeat' split) <;> simp_all
theorem lvl_1 {x : Int32} (h1 : ¬ x = 38) : ¬ pLvl x = 1 := by
  unfold pLvl; (repeat' split) <;> simp_all
theorem lvl_0 {x : Int32} (h1 : ¬ x = 124) : ¬ pLvl x = 0 := by
  unfold pLvl; (repeat' split) <;> simp_all
theorem sign_is {x : Int32} (h : ¬ pLvl x = -1) : isSign x := by
  unfold isSign
  unfold pLvl at h
  by_cases h1 : x = 124
  · exact Or.inl h1
  · by_cases h2 : x = 38
    · exact Or.inr (Or.inl h2)
    · by_cases h3 : x = 60 ∨ x = 61 ∨ x = 62
      · rcases h3 with h3 | h3 | h3 <;> simp [h3]
      · by_cases h4 : x = 43 ∨ x = 45
        · rcases h4 with h4 | h4 <;> simp [h4]
        · by_cases h5 : x = 42 ∨ x = 47 ∨ x = 37
          · rcases h5 with h5 | h5 | h5 <;> simp [h5]
          · rw [if_neg h1, if_neg h2, if_neg h3, if_neg h4, if_neg h5] at h; exact absurd rfl h
theorem sign_ok {x : Int32} {L : Nat} (hL : L < 5) (h : pLvl x = nI L) : actOk x 0 (-x) := by
  refine Or.inr (Or.inr (Or.inr ⟨sign_is (fun q => ?_), rfl⟩))
  rw [h] at q
  rcases (show L = 0 ∨ L = 1 ∨ L = 2 ∨ L = 3 ∨ L = 4 by omega) with rfl | rfl | rfl | rfl | rfl <;> exact absurd q (by decide)
theorem dg_in {x : Int32} (h : isDg x = true) : ∃ d, d < 10 ∧ x = nI (48 + d) := by
  simp only [isDg, Bool.and_eq_true, decide_eq_true_eq] at h
  obtain ⟨k, hk, rfl⟩ := nI_of (x := x) (fun q => by
    have h1 := h.1
    simp only [Int32.lt_iff_toInt_lt, Int32.le_iff_toInt_le, Int32.reduceToInt] at h1 q; omega)
  have h1 := (nI_leI (a := 48) (by decide) hk).mp h.1
  have h2 := (nI_leI (b := 57) hk (by decide)).mp h.2
  exact ⟨k - 48, by omega, by rw [show 48 + (k - 48) = k by omega]⟩
theorem pNum_val (sg : Nat → Int32) : ∀ (k p m B : Nat), m < B → B * 10 ^ k ≤ 10000 → ∃ m2, m2 < B * 10 ^ k ∧ (pNum sg k p (nI m)).2 = nI m2
  | 0, p, m, B, h, _ => ⟨m, by simpa using h, rfl⟩
  | k + 1, p, m, B, h, hB => by
    simp only [pNum]
    have hp : 0 < (10 : Nat) ^ k := Nat.pow_pos (by decide)
    have hB2 : B * 10 ^ (k + 1) = (10 * B) * 10 ^ k := by rw [Nat.pow_succ]; rw [Nat.mul_comm (10 ^ k) 10, ← Nat.mul_assoc, Nat.mul_comm B 10]
    split
    · rename_i hd
      obtain ⟨d, hd10, e⟩ := dg_in hd
      rw [e, show (10 : Int32) * nI m = nI (10 * m) from pk_mul 10 m, nI_add, show nI (10 * m + (48 + d)) - 48 = nI (10 * m + d) from by rw [show (48 : Int32) = nI 48 from rfl, pk_sub (by omega)]; congr 1; omega]
      obtain ⟨m2, h1, h2⟩ := pNum_val sg k (p + 1) (10 * m + d) (10 * B) (by omega) (by omega)
      exact ⟨m2, by omega, h2⟩
    · refine ⟨m, ?_, rfl⟩
      rw [hB2]
      exact Nat.lt_of_lt_of_le (by omega : m < 10 * B) (Nat.le_mul_of_pos_right _ hp)
theorem pNum_0 {sg : Nat → Int32} {q p : Nat} {v : Int32} (h : pNum sg 4 q 0 = (p, v)) : 0 ≤ v := by
  obtain ⟨m, hm, e⟩ := pNum_val sg 4 q 0 1 (by decide) (by decide)
  have e2 : (pNum sg 4 q (nI 0)).2 = v := by rw [show nI 0 = (0 : Int32) from rfl, h]
  rw [← e2, e]
  exact nI_pos' (by omega)
def HJm (l : Launch) (g : GT) (od : Nat) : Prop := ∀ (M0 M : Mem) (n u : Nat) (s : PS), mH M0 n u → okS n s → mC M0 M od s → CtrV l g yX10_any cX10_any 1 (8 * od + 8) [.ref (ga g 91)] M (fun M1 => mR M0 M1 od (pJd (smf (M0 92) n) (pSg (smf (M0 92) n) u od) 5 s))
def pOpen (sg : Nat → Int32) (u od : Nat) (s : PS) (x : Int32) : PR :=
  if x = 33 then (if (pSg sg u od (psGo s)).1 then (true, psAdd (pSg sg u od (psGo s)).2 (-33)) else (false, (pSg sg u od (psGo s)).2))
  else (if (pJd sg (pSg sg u od) 5 (psGo s)).1 = true ∧ sg (pJd sg (pSg sg u od) 5 (psGo s)).2.1 = 41 then (true, psGo (pJd sg (pSg sg u od) 5 (psGo s)).2) else (false, (pJd sg (pSg sg u od) 5 (psGo s)).2))
theorem mC_open {M0 M : Mem} {od : Nat} {s : PS} (h : mC M0 M (od + 1) s) : mC M0 (mu (mu M 91 14 (nI (5 - od))) 91 13 (nI (s.1 + 1))) od (psGo s) := by
  obtain ⟨h1, h2, h3, h4, h5, h6⟩ := h
  refine ⟨mu_s _ _ _ _, by rw [mu_o _ _ _ (by decide), mu_o _ _ _ (by decide)]; exact h2, fun k hk => ?_, by rw [mu_o _ _ _ (by decide), mu_s], by rw [mu_o _ _ _ (by decide), mu_o _ _ _ (by decide)]; exact h5, Sc_rd_mu (Sc_rd_mu h6 (Or.inr (Or.inr ⟨rfl, by decide, by decide⟩))) (Or.inr (Or.inr ⟨rfl, by decide, by decide⟩))⟩
  simp only [mu_n _ _ _ (show (99 : Nat) ≠ 91 by decide), mu_n _ _ _ (show (100 : Nat) ≠ 91 by decide)]; exact h3 k hk
theorem mC_close {M0 M : Mem} {od : Nat} {s : PS} (h : mC M0 M od s) : mC M0 (mu M 91 14 (nI (5 - (od + 1)))) (od + 1) s := by
  obtain ⟨h1, h2, h3, h4, h5, h6⟩ := h
  refine ⟨by rw [mu_o _ _ _ (by decide)]; exact h1, by rw [mu_o _ _ _ (by decide)]; exact h2, fun k hk => ?_, mu_s _ _ _ _, by rw [mu_o _ _ _ (by decide)]; exact h5, Sc_rd_mu h6 (Or.inr (Or.inr ⟨rfl, by decide, by decide⟩))⟩
  rw [mu_n _ _ _ (by decide), mu_n _ _ _ (by decide)]; exact h3 k hk
theorem mB_close {M0 M : Mem} {od : Nat} {s : PS} (h : mB M0 M od s) : mB M0 (mu M 91 14 (nI (5 - (od + 1)))) (od + 1) s := by
  obtain ⟨h1, ⟨z, hz, h2⟩, h4, h5, h6⟩ := h
  exact ⟨by rw [mu_o _ _ _ (by decide)]; exact h1, ⟨z, hz, by rw [mu_o _ _ _ (by decide)]; exact h2⟩, mu_s _ _ _ _, by rw [mu_o _ _ _ (by decide)]; exact h5, Sc_rd_mu h6 (Or.inr (Or.inr ⟨rfl, by decide, by decide⟩))⟩
/-- behind a bracket's inside: what is put of bad and here -/
theorem mB_br {M0 M : Mem} {od : Nat} {s : PS} (h1 : M 91 13 = nI s.1) (h2 : ∃ z, z ≤ 60 ∧ M 91 12 = nI z) (h4 : M 91 14 = nI (5 - od)) (h6 : Sc rdS M0 M) : mB M0 (mu (mu M 91 15 1) 91 13 (nI (s.1 + 0))) od s := by
  obtain ⟨z, hz, h2⟩ := h2
  exact ⟨by rw [mu_s, Nat.add_zero], ⟨z, hz, by rw [mu_o _ _ _ (by decide), mu_o _ _ _ (by decide)]; exact h2⟩, by rw [mu_o _ _ _ (by decide), mu_o _ _ _ (by decide)]; exact h4, by rw [mu_o _ _ _ (by decide), mu_s], Sc_rd_mu (Sc_rd_mu h6 (Or.inr (Or.inr ⟨rfl, by decide, by decide⟩))) (Or.inr (Or.inr ⟨rfl, by decide, by decide⟩))⟩
theorem mC_br {M0 M : Mem} {od : Nat} {s : PS} (h : mC M0 M od s) : mC M0 (mu (mu M 91 15 0) 91 13 (nI (s.1 + 1))) od (psGo s) := by
  obtain ⟨h1, h2, h3, h4, h5, h6⟩ := h
  refine ⟨mu_s _ _ _ _, by rw [mu_o _ _ _ (by decide), mu_o _ _ _ (by decide)]; exact h2, fun k hk => ?_, by rw [mu_o _ _ _ (by decide), mu_o _ _ _ (by decide)]; exact h4, by rw [mu_o _ _ _ (by decide), mu_s], Sc_rd_mu (Sc_rd_mu h6 (Or.inr (Or.inr ⟨rfl, by decide, by decide⟩))) (Or.inr (Or.inr ⟨rfl, by decide, by decide⟩))⟩
  simp only [mu_n _ _ _ (show (99 : Nat) ≠ 91 by decide), mu_n _ _ _ (show (100 : Nat) ≠ 91 by decide)]; exact h3 k hk
theorem mR_t {M0 M : Mem} {od : Nat} {s : PS} (h : mC M0 M od s) : mR M0 M od (true, s) := ⟨fun _ => h, fun q => by simp at q⟩
theorem mR_f {M0 M : Mem} {od : Nat} {s : PS} (h : mB M0 M od s) : mR M0 M od (false, s) := ⟨fun q => by simp at q, fun _ => h⟩

set_option maxHeartbeats 4000000 in
set_option maxRecDepth 20000 in
theorem qX10_look (l : Launch) (g : GT) (M0 M : Mem) {n u p : Nat} (hH : mH M0 n u) (hp : M 91 13 = nI p) (hpn : p ≤ n) (hS : Sc rdS M0 M) : CtrE l g yX10_look cX10_look 1 (some .int) 0 [.ref (ga g 91)] M (smf (M0 92) n p) M := by
  refine ctrI_of (by decide +kernel) (Nat.le_of_ble_eq_true rfl) ?_
  intro pP eE RR sS mI aG bB mE cD C
  refine k_lo (lo' := [(0, .ref (ga g 91))]) rfl ?_
  have hn60 := hH.2.1
  have h92 : M 92 = M0 92 := funext fun q => hS 92 q (by unfold rdS; omega)
  refine k_aload_n C 1 0 rfl rfl dX10_look_0 rfl ?_
  refine k_get C 4 flX10_117 91 (by decide) (v := .int ((M) 91 13)) (ce_91 g _) rfl dX10_look_1 rfl ?_
  refine k_teq (y := nI p) hp ?_
  refine k_aload_n C 5 0 rfl rfl dX10_look_4 rfl ?_
  refine k_get C 8 flX10_9 91 (by decide) (v := .ref (ga g 92)) (ce_91 g _) rfl dX10_look_5 rfl ?_
  refine k_iconst C 9 (v := 4) (by decide) dX10_look_8 rfl ?_
  refine k_iald C 10 92 4 (by decide) (ce_92 g) (by decide) rfl (by omega) dX10_look_9 rfl ?_
  refine k_teq (y := nI n) (by rw [h92]; exact hH.1) ?_
  refine k_icmp_ge C 28 13 dX10_look_10 (by decide) rfl (fun c10 => ?_) (fun d10 => ?_)
  · skip
    have c10 := (nI_leI (by omega) (by omega)).mp (show nI n ≤ nI p from c10)
    refine k_iconst C 29 (v := (-1)) (by decide) dX10_look_28 rfl ?_
    refine k_ret C rfl dX10_look_29 ?_
    exact ⟨(if_neg (by omega)).symm, rfl⟩
  · skip
    have d10 := mt (nI_leI (by omega) (by omega)).mpr (show ¬ (nI n ≤ nI p) from d10)
    refine k_aload_n C 14 0 rfl rfl dX10_look_13 rfl ?_
    refine k_get C 17 flX10_9 91 (by decide) (v := .ref (ga g 92)) (ce_91 g _) rfl dX10_look_14 rfl ?_
    refine k_bipush C 19 (v := 90) (by decide) dX10_look_17 rfl ?_
    refine k_aload_n C 20 0 rfl rfl dX10_look_19 rfl ?_
    refine k_get C 23 flX10_117 91 (by decide) (v := .int ((M) 91 13)) (ce_91 g _) rfl dX10_look_20 rfl ?_
    refine k_teq (y := nI p) hp ?_
    refine k_iadd C 24 dX10_look_23 rfl ?_
    refine k_teq (nI_add 90 p) ?_
    refine k_iald C 25 92 (90 + p) (by decide) (ce_92 g) (by decide) rfl (by omega) dX10_look_24 rfl ?_
    refine k_teq (y := M0 92 (90 + p)) (by rw [h92]) ?_
    refine k_goto C 29 dX10_look_25 (by decide) ?_
    refine k_ret C rfl dX10_look_29 ?_
    exact ⟨(if_pos (by omega)).symm, rfl⟩
set_option maxHeartbeats 4000000 in
set_option maxRecDepth 20000 in
theorem qX10_step (l : Launch) (g : GT) (M : Mem) {z : Nat} (hz : z ≤ 60) (h12 : M 91 12 = nI z) (a b : Int32) : CtrU l g yX10_step cX10_step 3 0 [.ref (ga g 91), .int a, .int b] M (stM M z a b) := by
  refine ctrV_of (by decide +kernel) (Nat.le_of_ble_eq_true rfl) ?_
  intro pP eE RR sS mI aG bB mE cD C
  refine k_lo (lo' := [(0, .ref (ga g 91)), (1, .int a), (2, .int b)]) rfl ?_
  refine k_aload_n C 1 0 rfl rfl dX10_step_0 rfl ?_
  refine k_get C 4 flX10_121 91 (by decide) (v := .int ((M) 91 12)) (ce_91 g _) rfl dX10_step_1 rfl ?_
  refine k_teq (y := nI z) h12 ?_
  refine k_aload_n C 5 0 rfl rfl dX10_step_4 rfl ?_
  refine k_get C 8 flX10_31 91 (by decide) (v := .ref (ga g 99)) (ce_91 g _) rfl dX10_step_5 rfl ?_
  refine k_alen C 9 99 0 (by decide) (ce_99 g _) rfl (v := 60) rfl dX10_step_8 rfl ?_
  refine k_icmp_ge C 42 12 dX10_step_9 (by decide) rfl (fun c9 => ?_) (fun d9 => ?_)
  · skip
    have c9 := (nI_leI (by omega) (by omega)).mp (show nI 60 ≤ nI z from c9)
    refine k_vret C dX10_step_42 ?_
    show _ = _
    unfold stM; rw [if_neg (by omega)]
  · skip
    have d9 := mt (nI_leI (by omega) (by omega)).mpr (show ¬ (nI 60 ≤ nI z) from d9)
    refine k_aload_n C 13 0 rfl rfl dX10_step_12 rfl ?_
    refine k_get C 16 flX10_31 91 (by decide) (v := .ref (ga g 99)) (ce_91 g _) rfl dX10_step_13 rfl ?_
    refine k_aload_n C 17 0 rfl rfl dX10_step_16 rfl ?_
    refine k_get C 20 flX10_121 91 (by decide) (v := .int ((M) 91 12)) (ce_91 g _) rfl dX10_step_17 rfl ?_
    refine k_teq (y := nI z) h12 ?_
    refine k_iload_n C 21 1 rfl rfl dX10_step_20 rfl ?_
    refine k_iast C 22 99 z (by decide) (ce_99 g) (by decide) rfl (by omega) dX10_step_21 rfl ?_
    refine k_aload_n C 23 0 rfl rfl dX10_step_22 rfl ?_
    refine k_get C 26 flX10_34 91 (by decide) (v := .ref (ga g 100)) (ce_91 g _) rfl dX10_step_23 rfl ?_
    refine k_aload_n C 27 0 rfl rfl dX10_step_26 rfl ?_
    refine k_get C 30 flX10_121 91 (by decide) (v := .int ((mu M 99 z a) 91 12)) (ce_91 g _) rfl dX10_step_27 rfl ?_
    refine k_teq (show (mu M 99 z a) 91 12 = M 91 12 by simp [mu_at]) ?_
    refine k_teq (y := nI z) h12 ?_
    refine k_iload_n C 31 2 rfl rfl dX10_step_30 rfl ?_
    refine k_iast C 32 100 z (by decide) (ce_100 g) (by decide) rfl (by omega) dX10_step_31 rfl ?_
    refine k_aload_n C 33 0 rfl rfl dX10_step_32 rfl ?_
    refine k_dup C 34 rfl dX10_step_33 rfl ?_
    refine k_get C 37 flX10_121 91 (by decide) (v := .int ((mu (mu M 99 z a) 100 z b) 91 12)) (ce_91 g _) rfl dX10_step_34 rfl ?_
    refine k_teq (show (mu (mu M 99 z a) 100 z b) 91 12 = M 91 12 by simp [mu_at]) ?_
    refine k_teq (y := nI z) h12 ?_
    refine k_iconst C 38 (v := 1) (by decide) dX10_step_37 rfl ?_
    refine k_iadd C 39 dX10_step_38 rfl ?_
    refine k_teq (nI_add z 1) ?_
    refine k_put C 42 flX10_121 plX10 91 (by decide) (ce_91 g _) (ce_91 g _) (Nat.le_of_ble_eq_true rfl) rfl rfl rfl dX10_step_39 rfl ?_
    refine k_vret C dX10_step_42 ?_
    show _ = _
    unfold stM; rw [if_pos (by omega)]
set_option maxHeartbeats 4000000 in
set_option maxRecDepth 20000 in
theorem qX10_nameOf (l : Launch) (g : GT) (M : Mem) {u : Nat} (hu : u < 2) (hu2 : M 91 16 = nI u) (x : Int32) : CtrE l g yX10_nameOf cX10_nameOf 2 (some .int) 0 [.ref (ga g 91), .int x] M (oI (pName u x)) M := by
  refine ctrI_of (by decide +kernel) (Nat.le_of_ble_eq_true rfl) ?_
  intro pP eE RR sS mI aG bB mE cD C
  refine k_lo (lo' := [(0, .ref (ga g 91)), (1, .int x)]) rfl ?_
  rcases (show u = 0 ∨ u = 1 by omega) with rfl | rfl
  · skip
    refine k_iload_n C 1 1 rfl rfl dX10_nameOf_0 rfl ?_
    by_cases w1_97 : x = 97
    · skip
      refine k_tin C 64 (by rw [w1_97]; decide) (by rw [w1_97]; decide) (by rw [w1_97]; rfl) dX10_nameOf_1 (by decide) ?_
      refine k_aload_n C 65 0 rfl rfl dX10_nameOf_64 rfl ?_
      refine k_get C 68 flX10_124 91 (by decide) (v := .int ((M) 91 16)) (ce_91 g _) rfl dX10_nameOf_65 rfl ?_
      refine k_teq (y := 0) hu2 ?_
      refine k_if_eq C 75 71 dX10_nameOf_68 (by decide) rfl (fun c68 => ?_) (fun d68 => ?_)
      · skip
        refine k_iload_n C 76 1 rfl rfl dX10_nameOf_75 rfl ?_
        refine k_bipush C 78 (v := 97) (by decide) dX10_nameOf_76 rfl ?_
        refine k_icmp_ne C 85 81 dX10_nameOf_78 (by decide) rfl (fun c78 => ?_) (fun d78 => ?_)
        · skip
          refine k_iload_n C 86 1 rfl rfl dX10_nameOf_85 rfl ?_
          refine k_bipush C 88 (v := 98) (by decide) dX10_nameOf_86 rfl ?_
          refine k_icmp_ne C 95 91 dX10_nameOf_88 (by decide) rfl (fun c88 => ?_) (fun d88 => ?_)
          · skip
            refine k_iconst C 96 (v := 2) (by decide) dX10_nameOf_95 rfl ?_
            refine k_ret C rfl dX10_nameOf_96 ?_
            refine ⟨?_, rfl⟩
            first | (simp [pName, nmc, oI, nI, w1_97, c68, c78, c88]; done) | exact absurd w1_97 c78 | (rw [w1_97] at c78; exact absurd c78 (by decide)) | exact absurd w1_97 c88 | (rw [w1_97] at c88; exact absurd c88 (by decide))
          · skip
            refine k_iconst C 92 (v := 1) (by decide) dX10_nameOf_91 rfl ?_
            refine k_goto C 96 dX10_nameOf_92 (by decide) ?_
            refine k_ret C rfl dX10_nameOf_96 ?_
            refine ⟨?_, rfl⟩
            first | (simp [pName, nmc, oI, nI, w1_97, c68, c78, d88]; done) | exact absurd w1_97 c78 | (rw [w1_97] at c78; exact absurd c78 (by decide)) | exact absurd w1_97 d88 | (rw [w1_97] at d88; exact absurd d88 (by decide))
        · skip
          refine k_iconst C 82 (v := 0) (by decide) dX10_nameOf_81 rfl ?_
          refine k_goto C 96 dX10_nameOf_82 (by decide) ?_
          refine k_ret C rfl dX10_nameOf_96 ?_
          refine ⟨?_, rfl⟩
          first | (simp [pName, nmc, oI, nI, w1_97, c68, d78]; done) | exact absurd w1_97 d78 | (rw [w1_97] at d78; exact absurd d78 (by decide))
      · skip
        exact absurd d68 (by decide)
    · skip
      by_cases w1_98 : x = 98
      · skip
        refine k_tin C 64 (by rw [w1_98]; decide) (by rw [w1_98]; decide) (by rw [w1_98]; rfl) dX10_nameOf_1 (by decide) ?_
        refine k_aload_n C 65 0 rfl rfl dX10_nameOf_64 rfl ?_
        refine k_get C 68 flX10_124 91 (by decide) (v := .int ((M) 91 16)) (ce_91 g _) rfl dX10_nameOf_65 rfl ?_
        refine k_teq (y := 0) hu2 ?_
        refine k_if_eq C 75 71 dX10_nameOf_68 (by decide) rfl (fun c68 => ?_) (fun d68 => ?_)
        · skip
          refine k_iload_n C 76 1 rfl rfl dX10_nameOf_75 rfl ?_
          refine k_bipush C 78 (v := 97) (by decide) dX10_nameOf_76 rfl ?_
          refine k_icmp_ne C 85 81 dX10_nameOf_78 (by decide) rfl (fun c78 => ?_) (fun d78 => ?_)
          · skip
            refine k_iload_n C 86 1 rfl rfl dX10_nameOf_85 rfl ?_
            refine k_bipush C 88 (v := 98) (by decide) dX10_nameOf_86 rfl ?_
            refine k_icmp_ne C 95 91 dX10_nameOf_88 (by decide) rfl (fun c88 => ?_) (fun d88 => ?_)
            · skip
              refine k_iconst C 96 (v := 2) (by decide) dX10_nameOf_95 rfl ?_
              refine k_ret C rfl dX10_nameOf_96 ?_
              refine ⟨?_, rfl⟩
              first | (simp [pName, nmc, oI, nI, w1_98, c68, c78, c88]; done) | exact absurd w1_98 c78 | (rw [w1_98] at c78; exact absurd c78 (by decide)) | exact absurd w1_98 c88 | (rw [w1_98] at c88; exact absurd c88 (by decide))
            · skip
              refine k_iconst C 92 (v := 1) (by decide) dX10_nameOf_91 rfl ?_
              refine k_goto C 96 dX10_nameOf_92 (by decide) ?_
              refine k_ret C rfl dX10_nameOf_96 ?_
              refine ⟨?_, rfl⟩
              first | (simp [pName, nmc, oI, nI, w1_98, c68, c78, d88]; done) | exact absurd w1_98 c78 | (rw [w1_98] at c78; exact absurd c78 (by decide)) | exact absurd w1_98 d88 | (rw [w1_98] at d88; exact absurd d88 (by decide))
          · skip
            refine k_iconst C 82 (v := 0) (by decide) dX10_nameOf_81 rfl ?_
            refine k_goto C 96 dX10_nameOf_82 (by decide) ?_
            refine k_ret C rfl dX10_nameOf_96 ?_
            refine ⟨?_, rfl⟩
            first | (simp [pName, nmc, oI, nI, w1_98, c68, d78]; done) | exact absurd w1_98 d78 | (rw [w1_98] at d78; exact absurd d78 (by decide))
        · skip
          exact absurd d68 (by decide)
      · skip
        by_cases w1_99 : x = 99
        · skip
          refine k_tin C 97 (by rw [w1_99]; decide) (by rw [w1_99]; decide) (by rw [w1_99]; rfl) dX10_nameOf_1 (by decide) ?_
          refine k_aload_n C 98 0 rfl rfl dX10_nameOf_97 rfl ?_
          refine k_get C 101 flX10_124 91 (by decide) (v := .int ((M) 91 16)) (ce_91 g _) rfl dX10_nameOf_98 rfl ?_
          refine k_teq (y := 0) hu2 ?_
          refine k_iconst C 102 (v := 1) (by decide) dX10_nameOf_101 rfl ?_
          refine k_icmp_eq C 109 105 dX10_nameOf_102 (by decide) rfl (fun c102 => ?_) (fun d102 => ?_)
          · skip
            exact absurd c102 (by decide)
          · skip
            refine k_iconst C 106 (v := (-1)) (by decide) dX10_nameOf_105 rfl ?_
            refine k_goto C 130 dX10_nameOf_106 (by decide) ?_
            refine k_ret C rfl dX10_nameOf_130 ?_
            refine ⟨?_, rfl⟩
            first | (simp [pName, nmc, oI, nI, w1_99, d102]; done) | (simp [pName, nmc, oI, show ¬ (99 : Int32) = x from fun q => w1_99 q.symm, w1_99]; done)
        · skip
          by_cases w1_100 : x = 100
          · skip
            refine k_tin C 97 (by rw [w1_100]; decide) (by rw [w1_100]; decide) (by rw [w1_100]; rfl) dX10_nameOf_1 (by decide) ?_
            refine k_aload_n C 98 0 rfl rfl dX10_nameOf_97 rfl ?_
            refine k_get C 101 flX10_124 91 (by decide) (v := .int ((M) 91 16)) (ce_91 g _) rfl dX10_nameOf_98 rfl ?_
            refine k_teq (y := 0) hu2 ?_
            refine k_iconst C 102 (v := 1) (by decide) dX10_nameOf_101 rfl ?_
            refine k_icmp_eq C 109 105 dX10_nameOf_102 (by decide) rfl (fun c102 => ?_) (fun d102 => ?_)
            · skip
              exact absurd c102 (by decide)
            · skip
              refine k_iconst C 106 (v := (-1)) (by decide) dX10_nameOf_105 rfl ?_
              refine k_goto C 130 dX10_nameOf_106 (by decide) ?_
              refine k_ret C rfl dX10_nameOf_130 ?_
              refine ⟨?_, rfl⟩
              first | (simp [pName, nmc, oI, nI, w1_100, d102]; done) | (simp [pName, nmc, oI, show ¬ (100 : Int32) = x from fun q => w1_100 q.symm, w1_100]; done)
          · skip
            by_cases w1_107 : x = 107
            · skip
              refine k_tin C 64 (by rw [w1_107]; decide) (by rw [w1_107]; decide) (by rw [w1_107]; rfl) dX10_nameOf_1 (by decide) ?_
              refine k_aload_n C 65 0 rfl rfl dX10_nameOf_64 rfl ?_
              refine k_get C 68 flX10_124 91 (by decide) (v := .int ((M) 91 16)) (ce_91 g _) rfl dX10_nameOf_65 rfl ?_
              refine k_teq (y := 0) hu2 ?_
              refine k_if_eq C 75 71 dX10_nameOf_68 (by decide) rfl (fun c68 => ?_) (fun d68 => ?_)
              · skip
                refine k_iload_n C 76 1 rfl rfl dX10_nameOf_75 rfl ?_
                refine k_bipush C 78 (v := 97) (by decide) dX10_nameOf_76 rfl ?_
                refine k_icmp_ne C 85 81 dX10_nameOf_78 (by decide) rfl (fun c78 => ?_) (fun d78 => ?_)
                · skip
                  refine k_iload_n C 86 1 rfl rfl dX10_nameOf_85 rfl ?_
                  refine k_bipush C 88 (v := 98) (by decide) dX10_nameOf_86 rfl ?_
                  refine k_icmp_ne C 95 91 dX10_nameOf_88 (by decide) rfl (fun c88 => ?_) (fun d88 => ?_)
                  · skip
                    refine k_iconst C 96 (v := 2) (by decide) dX10_nameOf_95 rfl ?_
                    refine k_ret C rfl dX10_nameOf_96 ?_
                    refine ⟨?_, rfl⟩
                    first | (simp [pName, nmc, oI, nI, w1_107, c68, c78, c88]; done) | exact absurd w1_107 c78 | (rw [w1_107] at c78; exact absurd c78 (by decide)) | exact absurd w1_107 c88 | (rw [w1_107] at c88; exact absurd c88 (by decide))
                  · skip
                    refine k_iconst C 92 (v := 1) (by decide) dX10_nameOf_91 rfl ?_
                    refine k_goto C 96 dX10_nameOf_92 (by decide) ?_
                    refine k_ret C rfl dX10_nameOf_96 ?_
                    refine ⟨?_, rfl⟩
                    first | (simp [pName, nmc, oI, nI, w1_107, c68, c78, d88]; done) | exact absurd w1_107 c78 | (rw [w1_107] at c78; exact absurd c78 (by decide)) | exact absurd w1_107 d88 | (rw [w1_107] at d88; exact absurd d88 (by decide))
                · skip
                  refine k_iconst C 82 (v := 0) (by decide) dX10_nameOf_81 rfl ?_
                  refine k_goto C 96 dX10_nameOf_82 (by decide) ?_
                  refine k_ret C rfl dX10_nameOf_96 ?_
                  refine ⟨?_, rfl⟩
                  first | (simp [pName, nmc, oI, nI, w1_107, c68, d78]; done) | exact absurd w1_107 d78 | (rw [w1_107] at d78; exact absurd d78 (by decide))
              · skip
                exact absurd d68 (by decide)
            · skip
              by_cases w1_108 : x = 108
              · skip
                refine k_tin C 97 (by rw [w1_108]; decide) (by rw [w1_108]; decide) (by rw [w1_108]; rfl) dX10_nameOf_1 (by decide) ?_
                refine k_aload_n C 98 0 rfl rfl dX10_nameOf_97 rfl ?_
                refine k_get C 101 flX10_124 91 (by decide) (v := .int ((M) 91 16)) (ce_91 g _) rfl dX10_nameOf_98 rfl ?_
                refine k_teq (y := 0) hu2 ?_
                refine k_iconst C 102 (v := 1) (by decide) dX10_nameOf_101 rfl ?_
                refine k_icmp_eq C 109 105 dX10_nameOf_102 (by decide) rfl (fun c102 => ?_) (fun d102 => ?_)
                · skip
                  exact absurd c102 (by decide)
                · skip
                  refine k_iconst C 106 (v := (-1)) (by decide) dX10_nameOf_105 rfl ?_
                  refine k_goto C 130 dX10_nameOf_106 (by decide) ?_
                  refine k_ret C rfl dX10_nameOf_130 ?_
                  refine ⟨?_, rfl⟩
                  first | (simp [pName, nmc, oI, nI, w1_108, d102]; done) | (simp [pName, nmc, oI, show ¬ (108 : Int32) = x from fun q => w1_108 q.symm, w1_108]; done)
              · skip
                by_cases w1_101 : x = 101
                · skip
                  refine k_tin C 131 (by rw [w1_101]; decide) (by rw [w1_101]; decide) (by rw [w1_101]; rfl) dX10_nameOf_1 (by decide) ?_
                  refine k_iconst C 132 (v := (-1)) (by decide) dX10_nameOf_131 rfl ?_
                  refine k_ret C rfl dX10_nameOf_132 ?_
                  refine ⟨?_, rfl⟩
                  first | (simp [pName, nmc, oI, nI, w1_97, w1_98, w1_99, w1_100, w1_107, w1_108, w1_101]; done) | (simp [pName, nmc, oI, show ¬ (97 : Int32) = x from fun q => w1_97 q.symm, w1_97, show ¬ (98 : Int32) = x from fun q => w1_98 q.symm, w1_98, show ¬ (99 : Int32) = x from fun q => w1_99 q.symm, w1_99, show ¬ (100 : Int32) = x from fun q => w1_100 q.symm, w1_100, show ¬ (107 : Int32) = x from fun q => w1_107 q.symm, w1_107, show ¬ (108 : Int32) = x from fun q => w1_108 q.symm, w1_108]; done)
                · skip
                  by_cases w1_102 : x = 102
                  · skip
                    refine k_tin C 131 (by rw [w1_102]; decide) (by rw [w1_102]; decide) (by rw [w1_102]; rfl) dX10_nameOf_1 (by decide) ?_
                    refine k_iconst C 132 (v := (-1)) (by decide) dX10_nameOf_131 rfl ?_
                    refine k_ret C rfl dX10_nameOf_132 ?_
                    refine ⟨?_, rfl⟩
                    first | (simp [pName, nmc, oI, nI, w1_97, w1_98, w1_99, w1_100, w1_107, w1_108, w1_101, w1_102]; done) | (simp [pName, nmc, oI, show ¬ (97 : Int32) = x from fun q => w1_97 q.symm, w1_97, show ¬ (98 : Int32) = x from fun q => w1_98 q.symm, w1_98, show ¬ (99 : Int32) = x from fun q => w1_99 q.symm, w1_99, show ¬ (100 : Int32) = x from fun q => w1_100 q.symm, w1_100, show ¬ (107 : Int32) = x from fun q => w1_107 q.symm, w1_107, show ¬ (108 : Int32) = x from fun q => w1_108 q.symm, w1_108]; done)
                  · skip
                    by_cases w1_103 : x = 103
                    · skip
                      refine k_tin C 131 (by rw [w1_103]; decide) (by rw [w1_103]; decide) (by rw [w1_103]; rfl) dX10_nameOf_1 (by decide) ?_
                      refine k_iconst C 132 (v := (-1)) (by decide) dX10_nameOf_131 rfl ?_
                      refine k_ret C rfl dX10_nameOf_132 ?_
                      refine ⟨?_, rfl⟩
                      first | (simp [pName, nmc, oI, nI, w1_97, w1_98, w1_99, w1_100, w1_107, w1_108, w1_101, w1_102, w1_103]; done) | (simp [pName, nmc, oI, show ¬ (97 : Int32) = x from fun q => w1_97 q.symm, w1_97, show ¬ (98 : Int32) = x from fun q => w1_98 q.symm, w1_98, show ¬ (99 : Int32) = x from fun q => w1_99 q.symm, w1_99, show ¬ (100 : Int32) = x from fun q => w1_100 q.symm, w1_100, show ¬ (107 : Int32) = x from fun q => w1_107 q.symm, w1_107, show ¬ (108 : Int32) = x from fun q => w1_108 q.symm, w1_108]; done)
                    · skip
                      by_cases w1_104 : x = 104
                      · skip
                        refine k_tin C 131 (by rw [w1_104]; decide) (by rw [w1_104]; decide) (by rw [w1_104]; rfl) dX10_nameOf_1 (by decide) ?_
                        refine k_iconst C 132 (v := (-1)) (by decide) dX10_nameOf_131 rfl ?_
                        refine k_ret C rfl dX10_nameOf_132 ?_
                        refine ⟨?_, rfl⟩
                        first | (simp [pName, nmc, oI, nI, w1_97, w1_98, w1_99, w1_100, w1_107, w1_108, w1_101, w1_102, w1_103, w1_104]; done) | (simp [pName, nmc, oI, show ¬ (97 : Int32) = x from fun q => w1_97 q.symm, w1_97, show ¬ (98 : Int32) = x from fun q => w1_98 q.symm, w1_98, show ¬ (99 : Int32) = x from fun q => w1_99 q.symm, w1_99, show ¬ (100 : Int32) = x from fun q => w1_100 q.symm, w1_100, show ¬ (107 : Int32) = x from fun q => w1_107 q.symm, w1_107, show ¬ (108 : Int32) = x from fun q => w1_108 q.symm, w1_108]; done)
                      · skip
                        by_cases w1_105 : x = 105
                        · skip
                          refine k_tin C 131 (by rw [w1_105]; decide) (by rw [w1_105]; decide) (by rw [w1_105]; rfl) dX10_nameOf_1 (by decide) ?_
                          refine k_iconst C 132 (v := (-1)) (by decide) dX10_nameOf_131 rfl ?_
                          refine k_ret C rfl dX10_nameOf_132 ?_
                          refine ⟨?_, rfl⟩
                          first | (simp [pName, nmc, oI, nI, w1_97, w1_98, w1_99, w1_100, w1_107, w1_108, w1_101, w1_102, w1_103, w1_104, w1_105]; done) | (simp [pName, nmc, oI, show ¬ (97 : Int32) = x from fun q => w1_97 q.symm, w1_97, show ¬ (98 : Int32) = x from fun q => w1_98 q.symm, w1_98, show ¬ (99 : Int32) = x from fun q => w1_99 q.symm, w1_99, show ¬ (100 : Int32) = x from fun q => w1_100 q.symm, w1_100, show ¬ (107 : Int32) = x from fun q => w1_107 q.symm, w1_107, show ¬ (108 : Int32) = x from fun q => w1_108 q.symm, w1_108]; done)
                        · skip
                          by_cases w1_106 : x = 106
                          · skip
                            refine k_tin C 131 (by rw [w1_106]; decide) (by rw [w1_106]; decide) (by rw [w1_106]; rfl) dX10_nameOf_1 (by decide) ?_
                            refine k_iconst C 132 (v := (-1)) (by decide) dX10_nameOf_131 rfl ?_
                            refine k_ret C rfl dX10_nameOf_132 ?_
                            refine ⟨?_, rfl⟩
                            first | (simp [pName, nmc, oI, nI, w1_97, w1_98, w1_99, w1_100, w1_107, w1_108, w1_101, w1_102, w1_103, w1_104, w1_105, w1_106]; done) | (simp [pName, nmc, oI, show ¬ (97 : Int32) = x from fun q => w1_97 q.symm, w1_97, show ¬ (98 : Int32) = x from fun q => w1_98 q.symm, w1_98, show ¬ (99 : Int32) = x from fun q => w1_99 q.symm, w1_99, show ¬ (100 : Int32) = x from fun q => w1_100 q.symm, w1_100, show ¬ (107 : Int32) = x from fun q => w1_107 q.symm, w1_107, show ¬ (108 : Int32) = x from fun q => w1_108 q.symm, w1_108]; done)
                          · skip
                            refine k_tout C 131 (by have z0 := i_ne w1_97 (k := 97) rfl; have z1 := i_ne w1_98 (k := 98) rfl; have z2 := i_ne w1_99 (k := 99) rfl; have z3 := i_ne w1_100 (k := 100) rfl; have z4 := i_ne w1_107 (k := 107) rfl; have z5 := i_ne w1_108 (k := 108) rfl; have z6 := i_ne w1_101 (k := 101) rfl; have z7 := i_ne w1_102 (k := 102) rfl; have z8 := i_ne w1_103 (k := 103) rfl; have z9 := i_ne w1_104 (k := 104) rfl; have z10 := i_ne w1_105 (k := 105) rfl; have z11 := i_ne w1_106 (k := 106) rfl; omega) dX10_nameOf_1 (by decide) ?_
                            refine k_iconst C 132 (v := (-1)) (by decide) dX10_nameOf_131 rfl ?_
                            refine k_ret C rfl dX10_nameOf_132 ?_
                            refine ⟨?_, rfl⟩
                            first | (simp [pName, nmc, oI, nI, w1_97, w1_98, w1_99, w1_100, w1_107, w1_108, w1_101, w1_102, w1_103, w1_104, w1_105, w1_106]; done) | (simp [pName, nmc, oI, show ¬ (97 : Int32) = x from fun q => w1_97 q.symm, w1_97, show ¬ (98 : Int32) = x from fun q => w1_98 q.symm, w1_98, show ¬ (99 : Int32) = x from fun q => w1_99 q.symm, w1_99, show ¬ (100 : Int32) = x from fun q => w1_100 q.symm, w1_100, show ¬ (107 : Int32) = x from fun q => w1_107 q.symm, w1_107, show ¬ (108 : Int32) = x from fun q => w1_108 q.symm, w1_108]; done)
  · skip
    refine k_iload_n C 1 1 rfl rfl dX10_nameOf_0 rfl ?_
    by_cases w1_97 : x = 97
    · skip
      refine k_tin C 64 (by rw [w1_97]; decide) (by rw [w1_97]; decide) (by rw [w1_97]; rfl) dX10_nameOf_1 (by decide) ?_
      refine k_aload_n C 65 0 rfl rfl dX10_nameOf_64 rfl ?_
      refine k_get C 68 flX10_124 91 (by decide) (v := .int ((M) 91 16)) (ce_91 g _) rfl dX10_nameOf_65 rfl ?_
      refine k_teq (y := 1) hu2 ?_
      refine k_if_eq C 75 71 dX10_nameOf_68 (by decide) rfl (fun c68 => ?_) (fun d68 => ?_)
      · skip
        exact absurd c68 (by decide)
      · skip
        refine k_iconst C 72 (v := (-1)) (by decide) dX10_nameOf_71 rfl ?_
        refine k_goto C 96 dX10_nameOf_72 (by decide) ?_
        refine k_ret C rfl dX10_nameOf_96 ?_
        refine ⟨?_, rfl⟩
        first | (simp [pName, nmc, oI, nI, w1_97, d68]; done) | (simp [pName, nmc, oI, show ¬ (97 : Int32) = x from fun q => w1_97 q.symm, w1_97]; done)
    · skip
      by_cases w1_98 : x = 98
      · skip
        refine k_tin C 64 (by rw [w1_98]; decide) (by rw [w1_98]; decide) (by rw [w1_98]; rfl) dX10_nameOf_1 (by decide) ?_
        refine k_aload_n C 65 0 rfl rfl dX10_nameOf_64 rfl ?_
        refine k_get C 68 flX10_124 91 (by decide) (v := .int ((M) 91 16)) (ce_91 g _) rfl dX10_nameOf_65 rfl ?_
        refine k_teq (y := 1) hu2 ?_
        refine k_if_eq C 75 71 dX10_nameOf_68 (by decide) rfl (fun c68 => ?_) (fun d68 => ?_)
        · skip
          exact absurd c68 (by decide)
        · skip
          refine k_iconst C 72 (v := (-1)) (by decide) dX10_nameOf_71 rfl ?_
          refine k_goto C 96 dX10_nameOf_72 (by decide) ?_
          refine k_ret C rfl dX10_nameOf_96 ?_
          refine ⟨?_, rfl⟩
          first | (simp [pName, nmc, oI, nI, w1_98, d68]; done) | (simp [pName, nmc, oI, show ¬ (98 : Int32) = x from fun q => w1_98 q.symm, w1_98]; done)
      · skip
        by_cases w1_99 : x = 99
        · skip
          refine k_tin C 97 (by rw [w1_99]; decide) (by rw [w1_99]; decide) (by rw [w1_99]; rfl) dX10_nameOf_1 (by decide) ?_
          refine k_aload_n C 98 0 rfl rfl dX10_nameOf_97 rfl ?_
          refine k_get C 101 flX10_124 91 (by decide) (v := .int ((M) 91 16)) (ce_91 g _) rfl dX10_nameOf_98 rfl ?_
          refine k_teq (y := 1) hu2 ?_
          refine k_iconst C 102 (v := 1) (by decide) dX10_nameOf_101 rfl ?_
          refine k_icmp_eq C 109 105 dX10_nameOf_102 (by decide) rfl (fun c102 => ?_) (fun d102 => ?_)
          · skip
            refine k_iload_n C 110 1 rfl rfl dX10_nameOf_109 rfl ?_
            refine k_bipush C 112 (v := 108) (by decide) dX10_nameOf_110 rfl ?_
            refine k_icmp_ne C 119 115 dX10_nameOf_112 (by decide) rfl (fun c112 => ?_) (fun d112 => ?_)
            · skip
              refine k_iload_n C 120 1 rfl rfl dX10_nameOf_119 rfl ?_
              refine k_bipush C 122 (v := 99) (by decide) dX10_nameOf_120 rfl ?_
              refine k_icmp_ne C 129 125 dX10_nameOf_122 (by decide) rfl (fun c122 => ?_) (fun d122 => ?_)
              · skip
                refine k_iconst C 130 (v := 2) (by decide) dX10_nameOf_129 rfl ?_
                refine k_ret C rfl dX10_nameOf_130 ?_
                refine ⟨?_, rfl⟩
                first | (simp [pName, nmc, oI, nI, w1_99, c102, c112, c122]; done) | exact absurd w1_99 c112 | (rw [w1_99] at c112; exact absurd c112 (by decide)) | exact absurd w1_99 c122 | (rw [w1_99] at c122; exact absurd c122 (by decide))
              · skip
                refine k_iconst C 126 (v := 1) (by decide) dX10_nameOf_125 rfl ?_
                refine k_goto C 130 dX10_nameOf_126 (by decide) ?_
                refine k_ret C rfl dX10_nameOf_130 ?_
                refine ⟨?_, rfl⟩
                first | (simp [pName, nmc, oI, nI, w1_99, c102, c112, d122]; done) | exact absurd w1_99 c112 | (rw [w1_99] at c112; exact absurd c112 (by decide)) | exact absurd w1_99 d122 | (rw [w1_99] at d122; exact absurd d122 (by decide))
            · skip
              refine k_iconst C 116 (v := 0) (by decide) dX10_nameOf_115 rfl ?_
              refine k_goto C 130 dX10_nameOf_116 (by decide) ?_
              refine k_ret C rfl dX10_nameOf_130 ?_
              refine ⟨?_, rfl⟩
              first | (simp [pName, nmc, oI, nI, w1_99, c102, d112]; done) | exact absurd w1_99 d112 | (rw [w1_99] at d112; exact absurd d112 (by decide))
          · skip
            exact absurd d102 (by decide)
        · skip
          by_cases w1_100 : x = 100
          · skip
            refine k_tin C 97 (by rw [w1_100]; decide) (by rw [w1_100]; decide) (by rw [w1_100]; rfl) dX10_nameOf_1 (by decide) ?_
            refine k_aload_n C 98 0 rfl rfl dX10_nameOf_97 rfl ?_
            refine k_get C 101 flX10_124 91 (by decide) (v := .int ((M) 91 16)) (ce_91 g _) rfl dX10_nameOf_98 rfl ?_
            refine k_teq (y := 1) hu2 ?_
            refine k_iconst C 102 (v := 1) (by decide) dX10_nameOf_101 rfl ?_
            refine k_icmp_eq C 109 105 dX10_nameOf_102 (by decide) rfl (fun c102 => ?_) (fun d102 => ?_)
            · skip
              refine k_iload_n C 110 1 rfl rfl dX10_nameOf_109 rfl ?_
              refine k_bipush C 112 (v := 108) (by decide) dX10_nameOf_110 rfl ?_
              refine k_icmp_ne C 119 115 dX10_nameOf_112 (by decide) rfl (fun c112 => ?_) (fun d112 => ?_)
              · skip
                refine k_iload_n C 120 1 rfl rfl dX10_nameOf_119 rfl ?_
                refine k_bipush C 122 (v := 99) (by decide) dX10_nameOf_120 rfl ?_
                refine k_icmp_ne C 129 125 dX10_nameOf_122 (by decide) rfl (fun c122 => ?_) (fun d122 => ?_)
                · skip
                  refine k_iconst C 130 (v := 2) (by decide) dX10_nameOf_129 rfl ?_
                  refine k_ret C rfl dX10_nameOf_130 ?_
                  refine ⟨?_, rfl⟩
                  first | (simp [pName, nmc, oI, nI, w1_100, c102, c112, c122]; done) | exact absurd w1_100 c112 | (rw [w1_100] at c112; exact absurd c112 (by decide)) | exact absurd w1_100 c122 | (rw [w1_100] at c122; exact absurd c122 (by decide))
                · skip
                  refine k_iconst C 126 (v := 1) (by decide) dX10_nameOf_125 rfl ?_
                  refine k_goto C 130 dX10_nameOf_126 (by decide) ?_
                  refine k_ret C rfl dX10_nameOf_130 ?_
                  refine ⟨?_, rfl⟩
                  first | (simp [pName, nmc, oI, nI, w1_100, c102, c112, d122]; done) | exact absurd w1_100 c112 | (rw [w1_100] at c112; exact absurd c112 (by decide)) | exact absurd w1_100 d122 | (rw [w1_100] at d122; exact absurd d122 (by decide))
              · skip
                refine k_iconst C 116 (v := 0) (by decide) dX10_nameOf_115 rfl ?_
                refine k_goto C 130 dX10_nameOf_116 (by decide) ?_
                refine k_ret C rfl dX10_nameOf_130 ?_
                refine ⟨?_, rfl⟩
                first | (simp [pName, nmc, oI, nI, w1_100, c102, d112]; done) | exact absurd w1_100 d112 | (rw [w1_100] at d112; exact absurd d112 (by decide))
            · skip
              exact absurd d102 (by decide)
          · skip
            by_cases w1_107 : x = 107
            · skip
              refine k_tin C 64 (by rw [w1_107]; decide) (by rw [w1_107]; decide) (by rw [w1_107]; rfl) dX10_nameOf_1 (by decide) ?_
              refine k_aload_n C 65 0 rfl rfl dX10_nameOf_64 rfl ?_
              refine k_get C 68 flX10_124 91 (by decide) (v := .int ((M) 91 16)) (ce_91 g _) rfl dX10_nameOf_65 rfl ?_
              refine k_teq (y := 1) hu2 ?_
              refine k_if_eq C 75 71 dX10_nameOf_68 (by decide) rfl (fun c68 => ?_) (fun d68 => ?_)
              · skip
                exact absurd c68 (by decide)
              · skip
                refine k_iconst C 72 (v := (-1)) (by decide) dX10_nameOf_71 rfl ?_
                refine k_goto C 96 dX10_nameOf_72 (by decide) ?_
                refine k_ret C rfl dX10_nameOf_96 ?_
                refine ⟨?_, rfl⟩
                first | (simp [pName, nmc, oI, nI, w1_107, d68]; done) | (simp [pName, nmc, oI, show ¬ (107 : Int32) = x from fun q => w1_107 q.symm, w1_107]; done)
            · skip
              by_cases w1_108 : x = 108
              · skip
                refine k_tin C 97 (by rw [w1_108]; decide) (by rw [w1_108]; decide) (by rw [w1_108]; rfl) dX10_nameOf_1 (by decide) ?_
                refine k_aload_n C 98 0 rfl rfl dX10_nameOf_97 rfl ?_
                refine k_get C 101 flX10_124 91 (by decide) (v := .int ((M) 91 16)) (ce_91 g _) rfl dX10_nameOf_98 rfl ?_
                refine k_teq (y := 1) hu2 ?_
                refine k_iconst C 102 (v := 1) (by decide) dX10_nameOf_101 rfl ?_
                refine k_icmp_eq C 109 105 dX10_nameOf_102 (by decide) rfl (fun c102 => ?_) (fun d102 => ?_)
                · skip
                  refine k_iload_n C 110 1 rfl rfl dX10_nameOf_109 rfl ?_
                  refine k_bipush C 112 (v := 108) (by decide) dX10_nameOf_110 rfl ?_
                  refine k_icmp_ne C 119 115 dX10_nameOf_112 (by decide) rfl (fun c112 => ?_) (fun d112 => ?_)
                  · skip
                    refine k_iload_n C 120 1 rfl rfl dX10_nameOf_119 rfl ?_
                    refine k_bipush C 122 (v := 99) (by decide) dX10_nameOf_120 rfl ?_
                    refine k_icmp_ne C 129 125 dX10_nameOf_122 (by decide) rfl (fun c122 => ?_) (fun d122 => ?_)
                    · skip
                      refine k_iconst C 130 (v := 2) (by decide) dX10_nameOf_129 rfl ?_
                      refine k_ret C rfl dX10_nameOf_130 ?_
                      refine ⟨?_, rfl⟩
                      first | (simp [pName, nmc, oI, nI, w1_108, c102, c112, c122]; done) | exact absurd w1_108 c112 | (rw [w1_108] at c112; exact absurd c112 (by decide)) | exact absurd w1_108 c122 | (rw [w1_108] at c122; exact absurd c122 (by decide))
                    · skip
                      refine k_iconst C 126 (v := 1) (by decide) dX10_nameOf_125 rfl ?_
                      refine k_goto C 130 dX10_nameOf_126 (by decide) ?_
                      refine k_ret C rfl dX10_nameOf_130 ?_
                      refine ⟨?_, rfl⟩
                      first | (simp [pName, nmc, oI, nI, w1_108, c102, c112, d122]; done) | exact absurd w1_108 c112 | (rw [w1_108] at c112; exact absurd c112 (by decide)) | exact absurd w1_108 d122 | (rw [w1_108] at d122; exact absurd d122 (by decide))
                  · skip
                    refine k_iconst C 116 (v := 0) (by decide) dX10_nameOf_115 rfl ?_
                    refine k_goto C 130 dX10_nameOf_116 (by decide) ?_
                    refine k_ret C rfl dX10_nameOf_130 ?_
                    refine ⟨?_, rfl⟩
                    first | (simp [pName, nmc, oI, nI, w1_108, c102, d112]; done) | exact absurd w1_108 d112 | (rw [w1_108] at d112; exact absurd d112 (by decide))
                · skip
                  exact absurd d102 (by decide)
              · skip
                by_cases w1_101 : x = 101
                · skip
                  refine k_tin C 131 (by rw [w1_101]; decide) (by rw [w1_101]; decide) (by rw [w1_101]; rfl) dX10_nameOf_1 (by decide) ?_
                  refine k_iconst C 132 (v := (-1)) (by decide) dX10_nameOf_131 rfl ?_
                  refine k_ret C rfl dX10_nameOf_132 ?_
                  refine ⟨?_, rfl⟩
                  first | (simp [pName, nmc, oI, nI, w1_97, w1_98, w1_99, w1_100, w1_107, w1_108, w1_101]; done) | (simp [pName, nmc, oI, show ¬ (97 : Int32) = x from fun q => w1_97 q.symm, w1_97, show ¬ (98 : Int32) = x from fun q => w1_98 q.symm, w1_98, show ¬ (99 : Int32) = x from fun q => w1_99 q.symm, w1_99, show ¬ (100 : Int32) = x from fun q => w1_100 q.symm, w1_100, show ¬ (107 : Int32) = x from fun q => w1_107 q.symm, w1_107, show ¬ (108 : Int32) = x from fun q => w1_108 q.symm, w1_108]; done)
                · skip
                  by_cases w1_102 : x = 102
                  · skip
                    refine k_tin C 131 (by rw [w1_102]; decide) (by rw [w1_102]; decide) (by rw [w1_102]; rfl) dX10_nameOf_1 (by decide) ?_
                    refine k_iconst C 132 (v := (-1)) (by decide) dX10_nameOf_131 rfl ?_
                    refine k_ret C rfl dX10_nameOf_132 ?_
                    refine ⟨?_, rfl⟩
                    first | (simp [pName, nmc, oI, nI, w1_97, w1_98, w1_99, w1_100, w1_107, w1_108, w1_101, w1_102]; done) | (simp [pName, nmc, oI, show ¬ (97 : Int32) = x from fun q => w1_97 q.symm, w1_97, show ¬ (98 : Int32) = x from fun q => w1_98 q.symm, w1_98, show ¬ (99 : Int32) = x from fun q => w1_99 q.symm, w1_99, show ¬ (100 : Int32) = x from fun q => w1_100 q.symm, w1_100, show ¬ (107 : Int32) = x from fun q => w1_107 q.symm, w1_107, show ¬ (108 : Int32) = x from fun q => w1_108 q.symm, w1_108]; done)
                  · skip
                    by_cases w1_103 : x = 103
                    · skip
                      refine k_tin C 131 (by rw [w1_103]; decide) (by rw [w1_103]; decide) (by rw [w1_103]; rfl) dX10_nameOf_1 (by decide) ?_
                      refine k_iconst C 132 (v := (-1)) (by decide) dX10_nameOf_131 rfl ?_
                      refine k_ret C rfl dX10_nameOf_132 ?_
                      refine ⟨?_, rfl⟩
                      first | (simp [pName, nmc, oI, nI, w1_97, w1_98, w1_99, w1_100, w1_107, w1_108, w1_101, w1_102, w1_103]; done) | (simp [pName, nmc, oI, show ¬ (97 : Int32) = x from fun q => w1_97 q.symm, w1_97, show ¬ (98 : Int32) = x from fun q => w1_98 q.symm, w1_98, show ¬ (99 : Int32) = x from fun q => w1_99 q.symm, w1_99, show ¬ (100 : Int32) = x from fun q => w1_100 q.symm, w1_100, show ¬ (107 : Int32) = x from fun q => w1_107 q.symm, w1_107, show ¬ (108 : Int32) = x from fun q => w1_108 q.symm, w1_108]; done)
                    · skip
                      by_cases w1_104 : x = 104
                      · skip
                        refine k_tin C 131 (by rw [w1_104]; decide) (by rw [w1_104]; decide) (by rw [w1_104]; rfl) dX10_nameOf_1 (by decide) ?_
                        refine k_iconst C 132 (v := (-1)) (by decide) dX10_nameOf_131 rfl ?_
                        refine k_ret C rfl dX10_nameOf_132 ?_
                        refine ⟨?_, rfl⟩
                        first | (simp [pName, nmc, oI, nI, w1_97, w1_98, w1_99, w1_100, w1_107, w1_108, w1_101, w1_102, w1_103, w1_104]; done) | (simp [pName, nmc, oI, show ¬ (97 : Int32) = x from fun q => w1_97 q.symm, w1_97, show ¬ (98 : Int32) = x from fun q => w1_98 q.symm, w1_98, show ¬ (99 : Int32) = x from fun q => w1_99 q.symm, w1_99, show ¬ (100 : Int32) = x from fun q => w1_100 q.symm, w1_100, show ¬ (107 : Int32) = x from fun q => w1_107 q.symm, w1_107, show ¬ (108 : Int32) = x from fun q => w1_108 q.symm, w1_108]; done)
                      · skip
                        by_cases w1_105 : x = 105
                        · skip
                          refine k_tin C 131 (by rw [w1_105]; decide) (by rw [w1_105]; decide) (by rw [w1_105]; rfl) dX10_nameOf_1 (by decide) ?_
                          refine k_iconst C 132 (v := (-1)) (by decide) dX10_nameOf_131 rfl ?_
                          refine k_ret C rfl dX10_nameOf_132 ?_
                          refine ⟨?_, rfl⟩
                          first | (simp [pName, nmc, oI, nI, w1_97, w1_98, w1_99, w1_100, w1_107, w1_108, w1_101, w1_102, w1_103, w1_104, w1_105]; done) | (simp [pName, nmc, oI, show ¬ (97 : Int32) = x from fun q => w1_97 q.symm, w1_97, show ¬ (98 : Int32) = x from fun q => w1_98 q.symm, w1_98, show ¬ (99 : Int32) = x from fun q => w1_99 q.symm, w1_99, show ¬ (100 : Int32) = x from fun q => w1_100 q.symm, w1_100, show ¬ (107 : Int32) = x from fun q => w1_107 q.symm, w1_107, show ¬ (108 : Int32) = x from fun q => w1_108 q.symm, w1_108]; done)
                        · skip
                          by_cases w1_106 : x = 106
                          · skip
                            refine k_tin C 131 (by rw [w1_106]; decide) (by rw [w1_106]; decide) (by rw [w1_106]; rfl) dX10_nameOf_1 (by decide) ?_
                            refine k_iconst C 132 (v := (-1)) (by decide) dX10_nameOf_131 rfl ?_
                            refine k_ret C rfl dX10_nameOf_132 ?_
                            refine ⟨?_, rfl⟩
                            first | (simp [pName, nmc, oI, nI, w1_97, w1_98, w1_99, w1_100, w1_107, w1_108, w1_101, w1_102, w1_103, w1_104, w1_105, w1_106]; done) | (simp [pName, nmc, oI, show ¬ (97 : Int32) = x from fun q => w1_97 q.symm, w1_97, show ¬ (98 : Int32) = x from fun q => w1_98 q.symm, w1_98, show ¬ (99 : Int32) = x from fun q => w1_99 q.symm, w1_99, show ¬ (100 : Int32) = x from fun q => w1_100 q.symm, w1_100, show ¬ (107 : Int32) = x from fun q => w1_107 q.symm, w1_107, show ¬ (108 : Int32) = x from fun q => w1_108 q.symm, w1_108]; done)
                          · skip
                            refine k_tout C 131 (by have z0 := i_ne w1_97 (k := 97) rfl; have z1 := i_ne w1_98 (k := 98) rfl; have z2 := i_ne w1_99 (k := 99) rfl; have z3 := i_ne w1_100 (k := 100) rfl; have z4 := i_ne w1_107 (k := 107) rfl; have z5 := i_ne w1_108 (k := 108) rfl; have z6 := i_ne w1_101 (k := 101) rfl; have z7 := i_ne w1_102 (k := 102) rfl; have z8 := i_ne w1_103 (k := 103) rfl; have z9 := i_ne w1_104 (k := 104) rfl; have z10 := i_ne w1_105 (k := 105) rfl; have z11 := i_ne w1_106 (k := 106) rfl; omega) dX10_nameOf_1 (by decide) ?_
                            refine k_iconst C 132 (v := (-1)) (by decide) dX10_nameOf_131 rfl ?_
                            refine k_ret C rfl dX10_nameOf_132 ?_
                            refine ⟨?_, rfl⟩
                            first | (simp [pName, nmc, oI, nI, w1_97, w1_98, w1_99, w1_100, w1_107, w1_108, w1_101, w1_102, w1_103, w1_104, w1_105, w1_106]; done) | (simp [pName, nmc, oI, show ¬ (97 : Int32) = x from fun q => w1_97 q.symm, w1_97, show ¬ (98 : Int32) = x from fun q => w1_98 q.symm, w1_98, show ¬ (99 : Int32) = x from fun q => w1_99 q.symm, w1_99, show ¬ (100 : Int32) = x from fun q => w1_100 q.symm, w1_100, show ¬ (107 : Int32) = x from fun q => w1_107 q.symm, w1_107, show ¬ (108 : Int32) = x from fun q => w1_108 q.symm, w1_108]; done)
set_option maxHeartbeats 4000000 in
set_option maxRecDepth 20000 in
theorem qX10_number (l : Launch) (g : GT) (od : Nat) (M0 M : Mem) {n u : Nat} (s : PS) (hH : mH M0 n u) (hs : okS n s) (hC : mC M0 M od s) : CtrV l g yX10_number cX10_number 3 1 [.ref (ga g 91)] M (fun M1 => (isDg ((smf (M0 92) n) s.1) = true → mC M0 M1 od (pDig (smf (M0 92) n) s).2) ∧ (isDg ((smf (M0 92) n) s.1) = false → mB M0 M1 od s)) := by
  refine ctrV_of (by decide +kernel) (Nat.le_of_ble_eq_true rfl) ?_
  intro pP eE RR sS mI aG bB mE cD C
  refine k_lo (lo' := [(0, .ref (ga g 91))]) rfl ?_
  have hn60 := hH.2.1
  have hp := hs.1
  have hz := hs.2
  refine k_iconst C 1 (v := 0) (by decide) dX10_number_0 rfl ?_
  refine k_istore_n C 2 [(1, .int 0), (0, .ref (ga g 91))] rfl (by decide) rfl dX10_number_1 rfl ?_
  refine k_iconst C 3 (v := 0) (by decide) dX10_number_2 rfl ?_
  refine k_istore_n C 4 [(2, .int 0), (1, .int 0), (0, .ref (ga g 91))] rfl (by decide) rfl dX10_number_3 rfl ?_
  refine k_sub [(0, .ref (ga g 91)), (1, .int 0), (2, .int 0)] [2, 1, 0] rfl ?_
  refine k_all (M' := M) (lo' := [(0, .ref (ga g 91)), (1, .int 0), (2, .int (nI 0))]) (st' := []) (by rfl) (by rfl) rfl ?_
  refine k_loop (σ := Nat × Nat × Int32 × Mem) (fun (v : Nat × Nat × Int32 × Mem) => match v with | (i, p, v, M1) => (i ≤ 4) ∧ (p ≤ n) ∧ (pNum (smf (M0 92) n) 4 s.1 0 = pNum (smf (M0 92) n) (4 - i) p v) ∧ (i = 0 ∧ p = s.1 ∨ 0 < i ∧ isDg ((smf (M0 92) n) s.1) = true) ∧ (mC M0 M1 od (p, s.2))) (fun (v : Nat × Nat × Int32 × Mem) => match v with | (i, p, v, M1) => 4 - i) (fun (v : Nat × Nat × Int32 × Mem) => match v with | (i, p, v, M1) => M1) (fun (v : Nat × Nat × Int32 × Mem) => match v with | (i, p, v, M1) => [(0, .ref (ga g 91)), (1, .int v), (2, .int (nI i))]) (0, s.1, 0, M) (show (0 ≤ 4) ∧ (s.1 ≤ n) ∧ (pNum (smf (M0 92) n) 4 s.1 0 = pNum (smf (M0 92) n) (4 - 0) s.1 0) ∧ (0 = 0 ∧ s.1 = s.1 ∨ 0 < 0 ∧ isDg ((smf (M0 92) n) s.1) = true) ∧ (mC M0 M od (s.1, s.2)) from by exact ⟨by decide, hp, rfl, Or.inl ⟨rfl, rfl⟩, hC⟩) ?_
  rintro ⟨i, p, v, M1⟩ hI ih
  have hI : (i ≤ 4) ∧ (p ≤ n) ∧ (pNum (smf (M0 92) n) 4 s.1 0 = pNum (smf (M0 92) n) (4 - i) p v) ∧ (i = 0 ∧ p = s.1 ∨ 0 < i ∧ isDg ((smf (M0 92) n) s.1) = true) ∧ (mC M0 M1 od (p, s.2)) := hI
  obtain ⟨hi, hpn, he, hd, hC1⟩ := hI
  show KW pP l eE RR sS mI aG bB mE cD g 3 _ (M1) 4 [(0, .ref (ga g 91)), (1, .int v), (2, .int (nI i))] []
  refine k_iload_n C 5 2 rfl rfl dX10_number_4 rfl ?_
  refine k_iconst C 6 (v := 4) (by decide) dX10_number_5 rfl ?_
  refine k_icmp_ge C 52 9 dX10_number_6 (by decide) rfl (fun c6 => ?_) (fun d6 => ?_)
  · skip
    have c6 := (nI_leI (by omega) (by omega)).mp (show nI 4 ≤ nI i from c6)
    have hfin : pNum (smf (M0 92) n) 4 s.1 0 = (p, v) := by
      rw [he]
      rw [show 4 - i = 0 by omega]; rfl
    refine k_aload_n C 53 0 rfl rfl dX10_number_52 rfl ?_
    refine k_iload_n C 54 2 rfl rfl dX10_number_53 rfl ?_
    refine k_if_ne C 61 57 dX10_number_54 (by decide) rfl (fun c54 => ?_) (fun d54 => ?_)
    · skip
      have c54 := mt (nI_eq (by omega) (by omega)).mpr (show ¬ (nI i = nI 0) from c54)
      refine k_iconst C 62 (v := 0) (by decide) dX10_number_61 rfl ?_
      refine k_put C 65 flX10_131 plX10 91 (by decide) (ce_91 g _) (ce_91 g _) (Nat.le_of_ble_eq_true rfl) rfl rfl rfl dX10_number_62 rfl ?_
      refine k_aload_n C 66 0 rfl rfl dX10_number_65 rfl ?_
      refine k_iconst C 67 (v := 1) (by decide) dX10_number_66 rfl ?_
      refine k_iload_n C 68 1 rfl rfl dX10_number_67 rfl ?_
      refine k_callVU C 71 (As := [.int 1, .int v]) (st := []) 91 (by decide) (ce_91 g _) rfl rfl mwX10_135 vlX10_step (qX10_step l g (mu M1 91 15 0) (z := s.2.1) hs.2 (by rw [mu_o _ _ _ (by decide)]; exact hC1.2.1) 1 v) mlX10_step (by decide) (by decide) rfl rfl (Nat.le_of_ble_eq_true rfl) dX10_number_68 rfl ?_
      refine k_vret C dX10_number_71 ?_
      have hdd : isDg ((smf (M0 92) n) s.1) = true := by rcases hd with h | h; exact absurd h.1 (by omega); exact h.2
      refine ⟨fun _ => ?_, fun q => absurd (hdd.symm.trans q) (by decide)⟩
      have hz : mC M0 (mu M1 91 15 0) od (p, s.2) := ⟨by rw [mu_o _ _ _ (by decide)]; exact hC1.1, by rw [mu_o _ _ _ (by decide)]; exact hC1.2.1, fun k hk => by rw [mu_n _ _ _ (by decide), mu_n _ _ _ (by decide)]; exact hC1.2.2.1 k hk, by rw [mu_o _ _ _ (by decide)]; exact hC1.2.2.2.1, mu_s _ _ _ _, Sc_rd_mu hC1.2.2.2.2.2 (Or.inr (Or.inr ⟨rfl, by decide, by decide⟩))⟩
      have := mC_add hz 1 v v (Or.inl ⟨rfl, rfl, pNum_0 hfin⟩)
      unfold pDig; rw [hfin]; exact this
    · skip
      have d54 := (nI_eq (by omega) (by omega)).mp (show nI i = nI 0 from d54)
      exact absurd d54 (by omega)
  · skip
    have d6 := mt (nI_leI (by omega) (by omega)).mpr (show ¬ (nI 4 ≤ nI i) from d6)
    refine k_aload_n C 10 0 rfl rfl dX10_number_9 rfl ?_
    refine k_callVE C 13 (As := []) (st := []) 91 (by decide) (ce_91 g _) rfl rfl mwX10_127 vlX10_look (qX10_look l g M0 M1 hH (p := (p, s.2).1) hC1.1 (show okS n (p, s.2) from ⟨hpn, hs.2⟩).1 hC1.2.2.2.2.2) mlX10_look (by decide) (by decide) rfl rfl (Nat.le_of_ble_eq_true rfl) dX10_number_10 rfl ?_
    refine k_bipush C 15 (v := 48) (by decide) dX10_number_13 rfl ?_
    refine k_bipush C 17 (v := 57) (by decide) dX10_number_15 rfl ?_
    refine k_callSE C 20 (As := [.int (smf (M0 92) n ((p, s.2).1)), .int 48, .int 57]) (st := []) mwX10_54 skX10_in (qX10_in l g M1 (smf (M0 92) n ((p, s.2).1)) 48 57) mlX10_in (by decide) (by decide) rfl rfl (Nat.le_of_ble_eq_true rfl) dX10_number_17 rfl ?_
    refine k_if_eqB C 52 23 dX10_number_20 (by decide) rfl (fun c20 => ?_) (fun d20 => ?_)
    · skip
      have hfin : pNum (smf (M0 92) n) 4 s.1 0 = (p, v) := by
        rw [he]
        rw [show 4 - i = (4 - (i + 1)) + 1 by omega]; simp only [pNum]; rw [if_neg (by unfold isDg; rw [c20]; decide)]
      refine k_aload_n C 53 0 rfl rfl dX10_number_52 rfl ?_
      refine k_iload_n C 54 2 rfl rfl dX10_number_53 rfl ?_
      refine k_if_ne C 61 57 dX10_number_54 (by decide) rfl (fun c54 => ?_) (fun d54 => ?_)
      · skip
        have c54 := mt (nI_eq (by omega) (by omega)).mpr (show ¬ (nI i = nI 0) from c54)
        refine k_iconst C 62 (v := 0) (by decide) dX10_number_61 rfl ?_
        refine k_put C 65 flX10_131 plX10 91 (by decide) (ce_91 g _) (ce_91 g _) (Nat.le_of_ble_eq_true rfl) rfl rfl rfl dX10_number_62 rfl ?_
        refine k_aload_n C 66 0 rfl rfl dX10_number_65 rfl ?_
        refine k_iconst C 67 (v := 1) (by decide) dX10_number_66 rfl ?_
        refine k_iload_n C 68 1 rfl rfl dX10_number_67 rfl ?_
        refine k_callVU C 71 (As := [.int 1, .int v]) (st := []) 91 (by decide) (ce_91 g _) rfl rfl mwX10_135 vlX10_step (qX10_step l g (mu M1 91 15 0) (z := s.2.1) hs.2 (by rw [mu_o _ _ _ (by decide)]; exact hC1.2.1) 1 v) mlX10_step (by decide) (by decide) rfl rfl (Nat.le_of_ble_eq_true rfl) dX10_number_68 rfl ?_
        refine k_vret C dX10_number_71 ?_
        have hdd : isDg ((smf (M0 92) n) s.1) = true := by rcases hd with h | h; exact absurd h.1 (by omega); exact h.2
        refine ⟨fun _ => ?_, fun q => absurd (hdd.symm.trans q) (by decide)⟩
        have hz : mC M0 (mu M1 91 15 0) od (p, s.2) := ⟨by rw [mu_o _ _ _ (by decide)]; exact hC1.1, by rw [mu_o _ _ _ (by decide)]; exact hC1.2.1, fun k hk => by rw [mu_n _ _ _ (by decide), mu_n _ _ _ (by decide)]; exact hC1.2.2.1 k hk, by rw [mu_o _ _ _ (by decide)]; exact hC1.2.2.2.1, mu_s _ _ _ _, Sc_rd_mu hC1.2.2.2.2.2 (Or.inr (Or.inr ⟨rfl, by decide, by decide⟩))⟩
        have := mC_add hz 1 v v (Or.inl ⟨rfl, rfl, pNum_0 hfin⟩)
        unfold pDig; rw [hfin]; exact this
      · skip
        have d54 := (nI_eq (by omega) (by omega)).mp (show nI i = nI 0 from d54)
        refine k_iconst C 58 (v := 1) (by decide) dX10_number_57 rfl ?_
        refine k_goto C 62 dX10_number_58 (by decide) ?_
        refine k_put C 65 flX10_131 plX10 91 (by decide) (ce_91 g _) (ce_91 g _) (Nat.le_of_ble_eq_true rfl) rfl rfl rfl dX10_number_62 rfl ?_
        refine k_aload_n C 66 0 rfl rfl dX10_number_65 rfl ?_
        refine k_iconst C 67 (v := 1) (by decide) dX10_number_66 rfl ?_
        refine k_iload_n C 68 1 rfl rfl dX10_number_67 rfl ?_
        refine k_callVU C 71 (As := [.int 1, .int v]) (st := []) 91 (by decide) (ce_91 g _) rfl rfl mwX10_135 vlX10_step (qX10_step l g (mu M1 91 15 1) (z := s.2.1) hs.2 (by rw [mu_o _ _ _ (by decide)]; exact hC1.2.1) 1 v) mlX10_step (by decide) (by decide) rfl rfl (Nat.le_of_ble_eq_true rfl) dX10_number_68 rfl ?_
        refine k_vret C dX10_number_71 ?_
        have hi0 : i = 0 := by omega
        have hp0 : p = s.1 := by omega
        refine ⟨fun q => ?_, fun _ => mB_add (s := s) ⟨by rw [mu_o _ _ _ (by decide), ← hp0]; exact hC1.1, ⟨s.2.1, hs.2, by rw [mu_o _ _ _ (by decide)]; exact hC1.2.1⟩, by rw [mu_o _ _ _ (by decide)]; exact hC1.2.2.2.1, mu_s _ _ _ _, Sc_rd_mu hC1.2.2.2.2.2 (Or.inr (Or.inr ⟨rfl, by decide, by decide⟩))⟩ hs.2 (by rw [mu_o _ _ _ (by decide)]; exact hC1.2.1) 1 v⟩
        rw [← hp0] at q
        exact absurd (show isDg _ = false by unfold isDg; exact c20) (by rw [q]; decide)
    · skip
      have hdg : isDg ((smf (M0 92) n) p) = true := by unfold isDg; exact d20
      have hpl : p < n := by
        rcases Nat.lt_or_ge p n with q | q
        · exact q
        · rw [(smf_end (M0 92) n p q).1] at hdg; cases hdg
      refine k_bipush C 25 (v := 10) (by decide) dX10_number_23 rfl ?_
      refine k_iload_n C 26 1 rfl rfl dX10_number_25 rfl ?_
      refine k_imul C 27 dX10_number_26 rfl ?_
      refine k_aload_n C 28 0 rfl rfl dX10_number_27 rfl ?_
      refine k_callVE C 31 (As := []) (st := [.int (10 * v)]) 91 (by decide) (ce_91 g _) rfl rfl mwX10_127 vlX10_look (qX10_look l g M0 M1 hH (p := (p, s.2).1) hC1.1 (show okS n (p, s.2) from ⟨hpn, hs.2⟩).1 hC1.2.2.2.2.2) mlX10_look (by decide) (by decide) rfl rfl (Nat.le_of_ble_eq_true rfl) dX10_number_28 rfl ?_
      refine k_iadd C 32 dX10_number_31 rfl ?_
      refine k_bipush C 34 (v := 48) (by decide) dX10_number_32 rfl ?_
      refine k_isub C 35 dX10_number_34 rfl ?_
      refine k_istore_n C 36 [(1, .int (((10 * v) + (smf (M0 92) n ((p, s.2).1))) - 48)), (0, .ref (ga g 91)), (2, .int (nI i))] rfl (by decide) rfl dX10_number_35 rfl ?_
      refine k_aload_n C 37 1 rfl rfl dX10_number_36 rfl ?_
      refine k_dup C 38 rfl dX10_number_37 rfl ?_
      refine k_get C 41 flX10_117 91 (by decide) (v := .int ((M1) 91 13)) (ce_91 g _) rfl dX10_number_38 rfl ?_
      refine k_teq (y := nI p) hC1.1 ?_
      refine k_iconst C 42 (v := 1) (by decide) dX10_number_41 rfl ?_
      refine k_iadd C 43 dX10_number_42 rfl ?_
      refine k_teq (nI_add p 1) ?_
      refine k_put C 46 flX10_117 plX10 91 (by decide) (ce_91 g _) (ce_91 g _) (Nat.le_of_ble_eq_true rfl) rfl rfl rfl dX10_number_43 rfl ?_
      refine k_iinc C 49 (nI (i + 1)) 2 [(2, .int (nI (i + 1))), (1, .int (((10 * v) + (smf (M0 92) n ((p, s.2).1))) - 48)), (0, .ref (ga g 91))] rfl (iinc_p i) (by decide) rfl dX10_number_46 rfl ?_
      refine k_goto C 4 dX10_number_49 (by decide) ?_
      refine k_sub [(0, .ref (ga g 91)), (1, .int (((10 * v) + (smf (M0 92) n ((p, s.2).1))) - 48)), (2, .int (nI (i + 1)))] [2, 1, 0] rfl ?_
      refine k_all (M' := (mu M1 91 13 (nI (p + 1)))) (lo' := [(0, .ref (ga g 91)), (1, .int (((10 * v) + (smf (M0 92) n ((p, s.2).1))) - 48)), (2, .int (nI (i + 1)))]) (st' := []) (by rfl) (by rfl) rfl ?_
      exact ih (i + 1, p + 1, ((10 * v) + (smf (M0 92) n ((p, s.2).1))) - 48, mu M1 91 13 (nI (p + 1))) (show ((i + 1) ≤ 4) ∧ ((p + 1) ≤ n) ∧ (pNum (smf (M0 92) n) 4 s.1 0 = pNum (smf (M0 92) n) (4 - (i + 1)) (p + 1) (((10 * v) + (smf (M0 92) n ((p, s.2).1))) - 48)) ∧ ((i + 1) = 0 ∧ (p + 1) = s.1 ∨ 0 < (i + 1) ∧ isDg ((smf (M0 92) n) s.1) = true) ∧ (mC M0 (mu M1 91 13 (nI (p + 1))) od ((p + 1), s.2)) from by exact ⟨by omega, by omega, by rw [he, show 4 - i = (4 - (i + 1)) + 1 by omega]; simp only [pNum]; rw [if_pos hdg], Or.inr ⟨by omega, by rcases hd with h | h; exact h.2 ▸ hdg; exact h.2⟩, mC_go hC1⟩) (by show 4 - (i + 1) < 4 - i; omega)
set_option maxHeartbeats 4000000 in
set_option maxRecDepth 20000 in
theorem qX10_opens_0 (l : Launch) (g : GT) (M0 M : Mem) {n u : Nat} (s : PS) (hH : mH M0 n u) (hs : okS n s) (hC : mC M0 M 0 s) (x : Int32) : CtrV l g yX10_opens cX10_opens 2 (8 * 0 + 2) [.ref (ga g 91), .int x] M (fun M1 => mB M0 M1 0 s) := by
  refine ctrV_of (by decide +kernel) (Nat.le_of_ble_eq_true rfl) ?_
  intro pP eE RR sS mI aG bB mE cD C
  refine k_lo (lo' := [(0, .ref (ga g 91)), (1, .int x)]) rfl ?_
  refine k_aload_n C 1 0 rfl rfl dX10_opens_0 rfl ?_
  refine k_get C 4 flX10_139 91 (by decide) (v := .int ((M) 91 14)) (ce_91 g _) rfl dX10_opens_1 rfl ?_
  refine k_teq (y := nI (5 - 0)) hC.2.2.2.1 ?_
  refine k_iconst C 5 (v := 5) (by decide) dX10_opens_4 rfl ?_
  refine k_icmp_ne C 14 8 dX10_opens_5 (by decide) rfl (fun c5 => ?_) (fun d5 => ?_)
  · skip
    have c5 := mt (nI_eq (by omega) (by omega)).mpr (show ¬ (nI (5 - 0) = nI 5) from c5)
    exact absurd rfl c5
  · skip
    have d5 := (nI_eq (by omega) (by omega)).mp (show nI (5 - 0) = nI 5 from d5)
    refine k_aload_n C 9 0 rfl rfl dX10_opens_8 rfl ?_
    refine k_iconst C 10 (v := 1) (by decide) dX10_opens_9 rfl ?_
    refine k_put C 13 flX10_131 plX10 91 (by decide) (ce_91 g _) (ce_91 g _) (Nat.le_of_ble_eq_true rfl) rfl rfl rfl dX10_opens_10 rfl ?_
    refine k_vret C dX10_opens_13 ?_
    exact ⟨by rw [mu_o _ _ _ (by decide)]; exact hC.1, ⟨s.2.1, hs.2, by rw [mu_o _ _ _ (by decide)]; exact hC.2.1⟩, by rw [mu_o _ _ _ (by decide)]; exact hC.2.2.2.1, mu_s _ _ _ _, Sc_rd_mu hC.2.2.2.2.2 (Or.inr (Or.inr ⟨rfl, by decide, by decide⟩))⟩
set_option maxHeartbeats 4000000 in
set_option maxRecDepth 20000 in
theorem qX10_opens_s (l : Launch) (g : GT) (od : Nat) (h5 : od < 5) (hS : HSm l g od) (hJ : HJm l g od) (M0 M : Mem) {n u : Nat} (s : PS) (hH : mH M0 n u) (hs : okS n s) (hC : mC M0 M (od + 1) s) (x : Int32) (hx : (smf (M0 92) n) s.1 = x) (h33 : x = 33 ∨ x = 40) : CtrV l g yX10_opens cX10_opens 2 (8 * (od + 1) + 2) [.ref (ga g 91), .int x] M (fun M1 => mR M0 M1 (od + 1) (pOpen (smf (M0 92) n) u od s x)) := by
  refine ctrV_of (by decide +kernel) (Nat.le_of_ble_eq_true rfl) ?_
  intro pP eE RR sS mI aG bB mE cD C
  refine k_lo (lo' := [(0, .ref (ga g 91)), (1, .int x)]) rfl ?_
  have hn60 := hH.2.1
  have hp := hs.1
  have hz := hs.2
  refine k_aload_n C 1 0 rfl rfl dX10_opens_0 rfl ?_
  refine k_get C 4 flX10_139 91 (by decide) (v := .int ((M) 91 14)) (ce_91 g _) rfl dX10_opens_1 rfl ?_
  refine k_teq (y := nI (5 - (od + 1))) hC.2.2.2.1 ?_
  refine k_iconst C 5 (v := 5) (by decide) dX10_opens_4 rfl ?_
  refine k_icmp_ne C 14 8 dX10_opens_5 (by decide) rfl (fun c5 => ?_) (fun d5 => ?_)
  · skip
    have c5 := mt (nI_eq (by omega) (by omega)).mpr (show ¬ (nI (5 - (od + 1)) = nI 5) from c5)
    refine k_aload_n C 15 0 rfl rfl dX10_opens_14 rfl ?_
    refine k_dup C 16 rfl dX10_opens_15 rfl ?_
    refine k_get C 19 flX10_139 91 (by decide) (v := .int ((M) 91 14)) (ce_91 g _) rfl dX10_opens_16 rfl ?_
    refine k_teq (y := nI (5 - (od + 1))) hC.2.2.2.1 ?_
    refine k_iconst C 20 (v := 1) (by decide) dX10_opens_19 rfl ?_
    refine k_iadd C 21 dX10_opens_20 rfl ?_
    refine k_teq (nI_add (5 - (od + 1)) 1) ?_
    refine k_teq (y := nI (5 - od)) (by rw [show 5 - (od + 1) + 1 = 5 - od by omega]) ?_
    refine k_put C 24 flX10_139 plX10 91 (by decide) (ce_91 g _) (ce_91 g _) (Nat.le_of_ble_eq_true rfl) rfl rfl rfl dX10_opens_21 rfl ?_
    refine k_aload_n C 25 0 rfl rfl dX10_opens_24 rfl ?_
    refine k_dup C 26 rfl dX10_opens_25 rfl ?_
    refine k_get C 29 flX10_117 91 (by decide) (v := .int ((mu M 91 14 (nI (5 - od))) 91 13)) (ce_91 g _) rfl dX10_opens_26 rfl ?_
    refine k_teq (show (mu M 91 14 (nI (5 - od))) 91 13 = M 91 13 by simp [mu_at]) ?_
    refine k_teq (y := nI s.1) hC.1 ?_
    refine k_iconst C 30 (v := 1) (by decide) dX10_opens_29 rfl ?_
    refine k_iadd C 31 dX10_opens_30 rfl ?_
    refine k_teq (nI_add s.1 1) ?_
    refine k_put C 34 flX10_117 plX10 91 (by decide) (ce_91 g _) (ce_91 g _) (Nat.le_of_ble_eq_true rfl) rfl rfl rfl dX10_opens_31 rfl ?_
    have hgo : okS n (psGo s) := ⟨at_in (smf_end (M0 92) n) (by rw [hx]; exact h33.elim Or.inl (fun q => Or.inr (Or.inl q))), hs.2⟩
    have hg := mC_open hC
    refine k_iload_n C 35 1 rfl rfl dX10_opens_34 rfl ?_
    refine k_bipush C 37 (v := 33) (by decide) dX10_opens_35 rfl ?_
    refine k_icmp_ne C 53 40 dX10_opens_37 (by decide) rfl (fun c37 => ?_) (fun d37 => ?_)
    · skip
      refine k_aload_n C 54 0 rfl rfl dX10_opens_53 rfl ?_
      refine k_callVV C 57 (As := []) (st := []) 91 (by decide) (ce_91 g _) rfl rfl mwX10_145 vlX10_any (hJ M0 _ n u (psGo s) hH hgo hg) mlX10_any (by omega) (by decide) rfl rfl (Nat.le_of_ble_eq_true rfl) dX10_opens_54 rfl (fun MA hMA => ?_)
      have hokMA := pJd_ok (smf_end (M0 92) n) (pSg_ok (smf_end (M0 92) n) hH.2.2.2 od) 5 (Nat.le_refl _) (psGo s) hgo
      cases hrMA : ((pJd (smf (M0 92) n) (pSg (smf (M0 92) n) u od) 5 (psGo s))).1 with
      | false =>
        have hSMA := hMA.2 hrMA
        obtain ⟨z, hz, hz12⟩ := hSMA.2.1
        refine k_aload_n C 58 0 rfl rfl dX10_opens_57 rfl ?_
        refine k_aload_n C 59 0 rfl rfl dX10_opens_58 rfl ?_
        refine k_get C 62 flX10_131 91 (by decide) (v := .int ((MA) 91 15)) (ce_91 g _) rfl dX10_opens_59 rfl ?_
        refine k_teq (y := 1) hSMA.2.2.2.1 ?_
        refine k_if_ne C 74 65 dX10_opens_62 (by decide) rfl (fun c62 => ?_) (fun d62 => ?_)
        · skip
          refine k_iconst C 75 (v := 1) (by decide) dX10_opens_74 rfl ?_
          refine k_goto C 79 dX10_opens_75 (by decide) ?_
          refine k_put C 82 flX10_131 plX10 91 (by decide) (ce_91 g _) (ce_91 g _) (Nat.le_of_ble_eq_true rfl) rfl rfl rfl dX10_opens_79 rfl ?_
          refine k_aload_n C 83 0 rfl rfl dX10_opens_82 rfl ?_
          refine k_dup C 84 rfl dX10_opens_83 rfl ?_
          refine k_get C 87 flX10_117 91 (by decide) (v := .int ((mu MA 91 15 1) 91 13)) (ce_91 g _) rfl dX10_opens_84 rfl ?_
          refine k_teq (show (mu MA 91 15 1) 91 13 = MA 91 13 by simp [mu_at]) ?_
          refine k_teq (y := nI ((((pJd (smf (M0 92) n) (pSg (smf (M0 92) n) u od) 5 (psGo s))).2).1)) hSMA.1 ?_
          refine k_aload_n C 88 0 rfl rfl dX10_opens_87 rfl ?_
          refine k_get C 91 flX10_131 91 (by decide) (v := .int ((mu MA 91 15 1) 91 15)) (ce_91 g _) rfl dX10_opens_88 rfl ?_
          refine k_teq (show (mu MA 91 15 1) 91 15 = 1 by simp [mu_at]) ?_
          refine k_if_eq C 98 94 dX10_opens_91 (by decide) rfl (fun c91 => ?_) (fun d91 => ?_)
          · skip
            exact absurd c91 (by decide)
          · skip
            refine k_iconst C 95 (v := 0) (by decide) dX10_opens_94 rfl ?_
            refine k_goto C 99 dX10_opens_95 (by decide) ?_
            refine k_iadd C 100 dX10_opens_99 rfl ?_
            refine k_teq (nI_add ((((pJd (smf (M0 92) n) (pSg (smf (M0 92) n) u od) 5 (psGo s))).2).1) 0) ?_
            refine k_put C 103 flX10_117 plX10 91 (by decide) (ce_91 g _) (ce_91 g _) (Nat.le_of_ble_eq_true rfl) rfl rfl rfl dX10_opens_100 rfl ?_
            refine k_aload_n C 104 0 rfl rfl dX10_opens_103 rfl ?_
            refine k_dup C 105 rfl dX10_opens_104 rfl ?_
            refine k_get C 108 flX10_139 91 (by decide) (v := .int ((mu (mu MA 91 15 1) 91 13 (nI (((((pJd (smf (M0 92) n) (pSg (smf (M0 92) n) u od) 5 (psGo s))).2).1) + 0))) 91 14)) (ce_91 g _) rfl dX10_opens_105 rfl ?_
            refine k_teq (show (mu (mu MA 91 15 1) 91 13 (nI (((((pJd (smf (M0 92) n) (pSg (smf (M0 92) n) u od) 5 (psGo s))).2).1) + 0))) 91 14 = MA 91 14 by simp [mu_at]) ?_
            refine k_teq (y := nI (5 - od)) hSMA.2.2.1 ?_
            refine k_iconst C 109 (v := 1) (by decide) dX10_opens_108 rfl ?_
            refine k_isub C 110 dX10_opens_109 rfl ?_
            refine k_teq (y := nI (5 - (od + 1))) (by rw [show 5 - od = (5 - (od + 1)) + 1 by omega, nI_pred]) ?_
            refine k_put C 113 flX10_139 plX10 91 (by decide) (ce_91 g _) (ce_91 g _) (Nat.le_of_ble_eq_true rfl) rfl rfl rfl dX10_opens_110 rfl ?_
            refine k_vret C dX10_opens_113 ?_
            unfold pOpen; rw [if_neg c37, if_neg (fun q => by rw [hrMA] at q; exact absurd q.1 (by decide))]; exact mR_f (mB_close (mB_br hSMA.1 hSMA.2.1 hSMA.2.2.1 hSMA.2.2.2.2))
        · skip
          exact absurd d62 (by decide)
      | true =>
        have hSMA := hMA.1 hrMA
        refine k_aload_n C 58 0 rfl rfl dX10_opens_57 rfl ?_
        refine k_aload_n C 59 0 rfl rfl dX10_opens_58 rfl ?_
        refine k_get C 62 flX10_131 91 (by decide) (v := .int ((MA) 91 15)) (ce_91 g _) rfl dX10_opens_59 rfl ?_
        refine k_teq (y := 0) hSMA.2.2.2.2.1 ?_
        refine k_if_ne C 74 65 dX10_opens_62 (by decide) rfl (fun c62 => ?_) (fun d62 => ?_)
        · skip
          exact absurd c62 (by decide)
        · skip
          refine k_aload_n C 66 0 rfl rfl dX10_opens_65 rfl ?_
          refine k_callVE C 69 (As := []) (st := [.ref (ga g 91)]) 91 (by decide) (ce_91 g _) rfl rfl mwX10_127 vlX10_look (qX10_look l g M0 MA hH (p := (((pJd (smf (M0 92) n) (pSg (smf (M0 92) n) u od) 5 (psGo s))).2).1) hSMA.1 hokMA.1 hSMA.2.2.2.2.2) mlX10_look (by omega) (by decide) rfl rfl (Nat.le_of_ble_eq_true rfl) dX10_opens_66 rfl ?_
          refine k_bipush C 71 (v := 41) (by decide) dX10_opens_69 rfl ?_
          refine k_icmp_eq C 78 74 dX10_opens_71 (by decide) rfl (fun c71 => ?_) (fun d71 => ?_)
          · skip
            refine k_iconst C 79 (v := 0) (by decide) dX10_opens_78 rfl ?_
            refine k_put C 82 flX10_131 plX10 91 (by decide) (ce_91 g _) (ce_91 g _) (Nat.le_of_ble_eq_true rfl) rfl rfl rfl dX10_opens_79 rfl ?_
            refine k_aload_n C 83 0 rfl rfl dX10_opens_82 rfl ?_
            refine k_dup C 84 rfl dX10_opens_83 rfl ?_
            refine k_get C 87 flX10_117 91 (by decide) (v := .int ((mu MA 91 15 0) 91 13)) (ce_91 g _) rfl dX10_opens_84 rfl ?_
            refine k_teq (show (mu MA 91 15 0) 91 13 = MA 91 13 by simp [mu_at]) ?_
            refine k_teq (y := nI ((((pJd (smf (M0 92) n) (pSg (smf (M0 92) n) u od) 5 (psGo s))).2).1)) hSMA.1 ?_
            refine k_aload_n C 88 0 rfl rfl dX10_opens_87 rfl ?_
            refine k_get C 91 flX10_131 91 (by decide) (v := .int ((mu MA 91 15 0) 91 15)) (ce_91 g _) rfl dX10_opens_88 rfl ?_
            refine k_teq (show (mu MA 91 15 0) 91 15 = 0 by simp [mu_at]) ?_
            refine k_if_eq C 98 94 dX10_opens_91 (by decide) rfl (fun c91 => ?_) (fun d91 => ?_)
            · skip
              refine k_iconst C 99 (v := 1) (by decide) dX10_opens_98 rfl ?_
              refine k_iadd C 100 dX10_opens_99 rfl ?_
              refine k_teq (nI_add ((((pJd (smf (M0 92) n) (pSg (smf (M0 92) n) u od) 5 (psGo s))).2).1) 1) ?_
              refine k_put C 103 flX10_117 plX10 91 (by decide) (ce_91 g _) (ce_91 g _) (Nat.le_of_ble_eq_true rfl) rfl rfl rfl dX10_opens_100 rfl ?_
              refine k_aload_n C 104 0 rfl rfl dX10_opens_103 rfl ?_
              refine k_dup C 105 rfl dX10_opens_104 rfl ?_
              refine k_get C 108 flX10_139 91 (by decide) (v := .int ((mu (mu MA 91 15 0) 91 13 (nI (((((pJd (smf (M0 92) n) (pSg (smf (M0 92) n) u od) 5 (psGo s))).2).1) + 1))) 91 14)) (ce_91 g _) rfl dX10_opens_105 rfl ?_
              refine k_teq (show (mu (mu MA 91 15 0) 91 13 (nI (((((pJd (smf (M0 92) n) (pSg (smf (M0 92) n) u od) 5 (psGo s))).2).1) + 1))) 91 14 = MA 91 14 by simp [mu_at]) ?_
              refine k_teq (y := nI (5 - od)) hSMA.2.2.2.1 ?_
              refine k_iconst C 109 (v := 1) (by decide) dX10_opens_108 rfl ?_
              refine k_isub C 110 dX10_opens_109 rfl ?_
              refine k_teq (y := nI (5 - (od + 1))) (by rw [show 5 - od = (5 - (od + 1)) + 1 by omega, nI_pred]) ?_
              refine k_put C 113 flX10_139 plX10 91 (by decide) (ce_91 g _) (ce_91 g _) (Nat.le_of_ble_eq_true rfl) rfl rfl rfl dX10_opens_110 rfl ?_
              refine k_vret C dX10_opens_113 ?_
              unfold pOpen; rw [if_neg c37, if_pos ⟨hrMA, c71⟩]; exact mR_t (mC_close (mC_br hSMA))
            · skip
              exact absurd d91 (by decide)
          · skip
            refine k_iconst C 75 (v := 1) (by decide) dX10_opens_74 rfl ?_
            refine k_goto C 79 dX10_opens_75 (by decide) ?_
            refine k_put C 82 flX10_131 plX10 91 (by decide) (ce_91 g _) (ce_91 g _) (Nat.le_of_ble_eq_true rfl) rfl rfl rfl dX10_opens_79 rfl ?_
            refine k_aload_n C 83 0 rfl rfl dX10_opens_82 rfl ?_
            refine k_dup C 84 rfl dX10_opens_83 rfl ?_
            refine k_get C 87 flX10_117 91 (by decide) (v := .int ((mu MA 91 15 1) 91 13)) (ce_91 g _) rfl dX10_opens_84 rfl ?_
            refine k_teq (show (mu MA 91 15 1) 91 13 = MA 91 13 by simp [mu_at]) ?_
            refine k_teq (y := nI ((((pJd (smf (M0 92) n) (pSg (smf (M0 92) n) u od) 5 (psGo s))).2).1)) hSMA.1 ?_
            refine k_aload_n C 88 0 rfl rfl dX10_opens_87 rfl ?_
            refine k_get C 91 flX10_131 91 (by decide) (v := .int ((mu MA 91 15 1) 91 15)) (ce_91 g _) rfl dX10_opens_88 rfl ?_
            refine k_teq (show (mu MA 91 15 1) 91 15 = 1 by simp [mu_at]) ?_
            refine k_if_eq C 98 94 dX10_opens_91 (by decide) rfl (fun c91 => ?_) (fun d91 => ?_)
            · skip
              exact absurd c91 (by decide)
            · skip
              refine k_iconst C 95 (v := 0) (by decide) dX10_opens_94 rfl ?_
              refine k_goto C 99 dX10_opens_95 (by decide) ?_
              refine k_iadd C 100 dX10_opens_99 rfl ?_
              refine k_teq (nI_add ((((pJd (smf (M0 92) n) (pSg (smf (M0 92) n) u od) 5 (psGo s))).2).1) 0) ?_
              refine k_put C 103 flX10_117 plX10 91 (by decide) (ce_91 g _) (ce_91 g _) (Nat.le_of_ble_eq_true rfl) rfl rfl rfl dX10_opens_100 rfl ?_
              refine k_aload_n C 104 0 rfl rfl dX10_opens_103 rfl ?_
              refine k_dup C 105 rfl dX10_opens_104 rfl ?_
              refine k_get C 108 flX10_139 91 (by decide) (v := .int ((mu (mu MA 91 15 1) 91 13 (nI (((((pJd (smf (M0 92) n) (pSg (smf (M0 92) n) u od) 5 (psGo s))).2).1) + 0))) 91 14)) (ce_91 g _) rfl dX10_opens_105 rfl ?_
              refine k_teq (show (mu (mu MA 91 15 1) 91 13 (nI (((((pJd (smf (M0 92) n) (pSg (smf (M0 92) n) u od) 5 (psGo s))).2).1) + 0))) 91 14 = MA 91 14 by simp [mu_at]) ?_
              refine k_teq (y := nI (5 - od)) hSMA.2.2.2.1 ?_
              refine k_iconst C 109 (v := 1) (by decide) dX10_opens_108 rfl ?_
              refine k_isub C 110 dX10_opens_109 rfl ?_
              refine k_teq (y := nI (5 - (od + 1))) (by rw [show 5 - od = (5 - (od + 1)) + 1 by omega, nI_pred]) ?_
              refine k_put C 113 flX10_139 plX10 91 (by decide) (ce_91 g _) (ce_91 g _) (Nat.le_of_ble_eq_true rfl) rfl rfl rfl dX10_opens_110 rfl ?_
              refine k_vret C dX10_opens_113 ?_
              unfold pOpen; rw [if_neg c37, if_neg (fun q => d71 q.2)]; exact mR_f (mB_close (mB_br hSMA.1 ⟨_, hokMA.2, hSMA.2.1⟩ hSMA.2.2.2.1 hSMA.2.2.2.2.2))
    · skip
      refine k_aload_n C 41 0 rfl rfl dX10_opens_40 rfl ?_
      refine k_callVV C 44 (As := []) (st := []) 91 (by decide) (ce_91 g _) rfl rfl mwX10_142 vlX10_one (hS M0 _ n u (psGo s) hH hgo hg) mlX10_one (by omega) (by decide) rfl rfl (Nat.le_of_ble_eq_true rfl) dX10_opens_41 rfl (fun MA hMA => ?_)
      have hokMA := pSg_ok (smf_end (M0 92) n) hH.2.2.2 od (psGo s) hgo
      cases hrMA : ((pSg (smf (M0 92) n) u od (psGo s))).1 with
      | false =>
        have hSMA := hMA.2 hrMA
        obtain ⟨z, hz, hz12⟩ := hSMA.2.1
        refine k_aload_n C 45 0 rfl rfl dX10_opens_44 rfl ?_
        refine k_iconst C 46 (v := 3) (by decide) dX10_opens_45 rfl ?_
        refine k_iconst C 47 (v := 0) (by decide) dX10_opens_46 rfl ?_
        refine k_callVU C 50 (As := [.int 3, .int 0]) (st := []) 91 (by decide) (ce_91 g _) rfl rfl mwX10_135 vlX10_step (qX10_step l g MA (z := z) hz hz12 3 0) mlX10_step (by omega) (by decide) rfl rfl (Nat.le_of_ble_eq_true rfl) dX10_opens_47 rfl ?_
        refine k_goto C 103 dX10_opens_50 (by decide) ?_
        refine k_aload_n C 104 0 rfl rfl dX10_opens_103 rfl ?_
        refine k_dup C 105 rfl dX10_opens_104 rfl ?_
        refine k_get C 108 flX10_139 91 (by decide) (v := .int ((stM MA z 3 0) 91 14)) (ce_91 g _) rfl dX10_opens_105 rfl ?_
        refine k_teq (y := nI (5 - od)) (by rw [stM_91 _ _ _ _ (by decide)]; exact hSMA.2.2.1) ?_
        refine k_iconst C 109 (v := 1) (by decide) dX10_opens_108 rfl ?_
        refine k_isub C 110 dX10_opens_109 rfl ?_
        refine k_teq (y := nI (5 - (od + 1))) (by rw [show 5 - od = (5 - (od + 1)) + 1 by omega, nI_pred]) ?_
        refine k_put C 113 flX10_139 plX10 91 (by decide) (ce_91 g _) (ce_91 g _) (Nat.le_of_ble_eq_true rfl) rfl rfl rfl dX10_opens_110 rfl ?_
        refine k_vret C dX10_opens_113 ?_
        unfold pOpen; rw [if_pos d37, if_neg (by rw [hrMA]; decide)]; exact mR_f (mB_close (mB_add hSMA hz hz12 3 0))
      | true =>
        have hSMA := hMA.1 hrMA
        refine k_aload_n C 45 0 rfl rfl dX10_opens_44 rfl ?_
        refine k_iconst C 46 (v := 3) (by decide) dX10_opens_45 rfl ?_
        refine k_iconst C 47 (v := 0) (by decide) dX10_opens_46 rfl ?_
        refine k_callVU C 50 (As := [.int 3, .int 0]) (st := []) 91 (by decide) (ce_91 g _) rfl rfl mwX10_135 vlX10_step (qX10_step l g MA (z := (((pSg (smf (M0 92) n) u od (psGo s))).2).2.1) hokMA.2 hSMA.2.1 3 0) mlX10_step (by omega) (by decide) rfl rfl (Nat.le_of_ble_eq_true rfl) dX10_opens_47 rfl ?_
        refine k_goto C 103 dX10_opens_50 (by decide) ?_
        refine k_aload_n C 104 0 rfl rfl dX10_opens_103 rfl ?_
        refine k_dup C 105 rfl dX10_opens_104 rfl ?_
        refine k_get C 108 flX10_139 91 (by decide) (v := .int ((stM MA ((((pSg (smf (M0 92) n) u od (psGo s))).2).2.1) 3 0) 91 14)) (ce_91 g _) rfl dX10_opens_105 rfl ?_
        refine k_teq (y := nI (5 - od)) (by rw [stM_91 _ _ _ _ (by decide)]; exact hSMA.2.2.2.1) ?_
        refine k_iconst C 109 (v := 1) (by decide) dX10_opens_108 rfl ?_
        refine k_isub C 110 dX10_opens_109 rfl ?_
        refine k_teq (y := nI (5 - (od + 1))) (by rw [show 5 - od = (5 - (od + 1)) + 1 by omega, nI_pred]) ?_
        refine k_put C 113 flX10_139 plX10 91 (by decide) (ce_91 g _) (ce_91 g _) (Nat.le_of_ble_eq_true rfl) rfl rfl rfl dX10_opens_110 rfl ?_
        refine k_vret C dX10_opens_113 ?_
        unfold pOpen; rw [if_pos d37, if_pos hrMA]; exact mR_t (mC_close (mC_add hSMA 3 0 (-33) (Or.inr (Or.inr (Or.inl ⟨rfl, rfl⟩)))))
  · skip
    have d5 := (nI_eq (by omega) (by omega)).mp (show nI (5 - (od + 1)) = nI 5 from d5)
    exact absurd d5 (by omega)
set_option maxHeartbeats 4000000 in
set_option maxRecDepth 20000 in
theorem qX10_one_0 (l : Launch) (g : GT) (M0 M : Mem) {n u : Nat} (s : PS) (hH : mH M0 n u) (hs : okS n s) (hC : mC M0 M 0 s) : CtrV l g yX10_one cX10_one 3 (8 * 0 + 3) [.ref (ga g 91)] M (fun M1 => mR M0 M1 0 (pSg (smf (M0 92) n) u 0 s)) := by
  refine ctrV_of (by decide +kernel) (Nat.le_of_ble_eq_true rfl) ?_
  intro pP eE RR sS mI aG bB mE cD C
  refine k_lo (lo' := [(0, .ref (ga g 91))]) rfl ?_
  have hn60 := hH.2.1
  have hp := hs.1
  have hz := hs.2
  refine k_aload_n C 1 0 rfl rfl dX10_one_0 rfl ?_
  refine k_callVE C 4 (As := []) (st := []) 91 (by decide) (ce_91 g _) rfl rfl mwX10_127 vlX10_look (qX10_look l g M0 M hH (p := s.1) hC.1 hs.1 hC.2.2.2.2.2) mlX10_look (by omega) (by decide) rfl rfl (Nat.le_of_ble_eq_true rfl) dX10_one_1 rfl ?_
  refine k_istore_n C 5 [(1, .int (smf (M0 92) n s.1)), (0, .ref (ga g 91))] rfl (by decide) rfl dX10_one_4 rfl ?_
  refine k_aload_n C 6 1 rfl rfl dX10_one_5 rfl ?_
  refine k_iload_n C 7 0 rfl rfl dX10_one_6 rfl ?_
  refine k_callVE C 10 (As := [.int (smf (M0 92) n s.1)]) (st := []) 91 (by decide) (ce_91 g _) rfl rfl mwX10_148 vlX10_nameOf (qX10_nameOf l g M (u := u) hH.2.2.2 ((hC.2.2.2.2.2 91 16 (by unfold rdS; omega)).trans hH.2.2.1) (smf (M0 92) n s.1)) mlX10_nameOf (by omega) (by decide) rfl rfl (Nat.le_of_ble_eq_true rfl) dX10_one_7 rfl ?_
  refine k_istore_n C 11 [(2, .int (oI (pName u ((smf (M0 92) n) s.1)))), (1, .int (smf (M0 92) n s.1)), (0, .ref (ga g 91))] rfl (by decide) rfl dX10_one_10 rfl ?_
  refine k_iload_n C 12 0 rfl rfl dX10_one_11 rfl ?_
  rcases q12 : pName u ((smf (M0 92) n) s.1) with _ | i
  · skip
    have q12n := q12
    refine k_teq (y := (-1)) rfl ?_
    refine k_lo (lo' := [(2, .int (-1)), (1, .int (smf (M0 92) n s.1)), (0, .ref (ga g 91))]) rfl ?_
    refine k_if_lt C 34 15 dX10_one_12 (by decide) rfl (fun c12 => ?_) (fun d12 => ?_)
    · skip
      refine k_iload_n C 35 1 rfl rfl dX10_one_34 rfl ?_
      refine k_bipush C 37 (v := 33) (by decide) dX10_one_35 rfl ?_
      refine k_icmp_eq C 46 40 dX10_one_37 (by decide) rfl (fun c37 => ?_) (fun d37 => ?_)
      · skip
        refine k_aload_n C 47 2 rfl rfl dX10_one_46 rfl ?_
        refine k_iload_n C 48 1 rfl rfl dX10_one_47 rfl ?_
        refine k_callVV C 51 (As := [.int (smf (M0 92) n s.1)]) (st := []) 91 (by decide) (ce_91 g _) rfl rfl mwX10_151 vlX10_opens (qX10_opens_0 l g M0 M s hH hs hC ((smf (M0 92) n) s.1)) mlX10_opens (by decide) (by decide) rfl rfl (Nat.le_of_ble_eq_true rfl) dX10_one_48 rfl (fun MO hMO => ?_)
        refine k_goto C 58 dX10_one_51 (by decide) ?_
        refine k_vret C dX10_one_58 ?_
        simp only [pSg]
        rw [if_neg (show ¬ isDg _ = true by rw [c37]; decide), if_pos (Or.inl c37)]; exact mR_f hMO
      · skip
        refine k_iload_n C 41 1 rfl rfl dX10_one_40 rfl ?_
        refine k_bipush C 43 (v := 40) (by decide) dX10_one_41 rfl ?_
        refine k_icmp_ne C 54 46 dX10_one_43 (by decide) rfl (fun c43 => ?_) (fun d43 => ?_)
        · skip
          refine k_aload_n C 55 2 rfl rfl dX10_one_54 rfl ?_
          refine k_callVV C 58 (As := []) (st := []) 91 (by decide) (ce_91 g _) rfl rfl mwX10_155 vlX10_number (qX10_number l g 0 M0 M s hH hs hC) mlX10_number (by decide) (by decide) rfl rfl (Nat.le_of_ble_eq_true rfl) dX10_one_55 rfl (fun MN hMN => ?_)
          refine k_vret C dX10_one_58 ?_
          cases hdg : isDg ((smf (M0 92) n) s.1) with
          | true =>
            simp only [pSg]; rw [if_pos hdg]; exact mR_t (hMN.1 hdg)
          | false =>
            simp only [pSg]; rw [if_neg (by rw [hdg]; decide), if_neg (fun q => q.elim d37 c43), q12]; exact mR_f (hMN.2 hdg)
        · skip
          refine k_aload_n C 47 2 rfl rfl dX10_one_46 rfl ?_
          refine k_iload_n C 48 1 rfl rfl dX10_one_47 rfl ?_
          refine k_callVV C 51 (As := [.int (smf (M0 92) n s.1)]) (st := []) 91 (by decide) (ce_91 g _) rfl rfl mwX10_151 vlX10_opens (qX10_opens_0 l g M0 M s hH hs hC ((smf (M0 92) n) s.1)) mlX10_opens (by decide) (by decide) rfl rfl (Nat.le_of_ble_eq_true rfl) dX10_one_48 rfl (fun MO hMO => ?_)
          refine k_goto C 58 dX10_one_51 (by decide) ?_
          refine k_vret C dX10_one_58 ?_
          simp only [pSg]
          rw [if_neg (show ¬ isDg _ = true by rw [d43]; decide), if_pos (Or.inr d43)]; exact mR_f hMO
    · skip
      exact absurd d12 (by decide)
  · skip
    have q12s := q12
    refine k_teq (y := nI i) rfl ?_
    refine k_lo (lo' := [(2, .int (nI i)), (1, .int (smf (M0 92) n s.1)), (0, .ref (ga g 91))]) rfl ?_
    have hi := pName_dg hH.2.2.2 q12
    have hil : s.1 < n := by
      rcases Nat.lt_or_ge s.1 n with q | q
      · exact q
      · rw [(smf_end (M0 92) n s.1 q).2.2.2.2.2 u hH.2.2.2] at q12; cases q12
    have hi3 := hi.2.2.2
    refine k_if_lt C 34 15 dX10_one_12 (by decide) rfl (fun c12 => ?_) (fun d12 => ?_)
    · skip
      have c12 := (nI_ltI (by omega) (by omega)).mp (show nI i < nI 0 from c12)
      exact absurd c12 (by omega)
    · skip
      have d12 := mt (nI_ltI (by omega) (by omega)).mpr (show ¬ (nI i < nI 0) from d12)
      refine k_aload_n C 16 2 rfl rfl dX10_one_15 rfl ?_
      refine k_dup C 17 rfl dX10_one_16 rfl ?_
      refine k_get C 20 flX10_117 91 (by decide) (v := .int ((M) 91 13)) (ce_91 g _) rfl dX10_one_17 rfl ?_
      refine k_teq (y := nI s.1) hC.1 ?_
      refine k_iconst C 21 (v := 1) (by decide) dX10_one_20 rfl ?_
      refine k_iadd C 22 dX10_one_21 rfl ?_
      refine k_teq (nI_add s.1 1) ?_
      refine k_put C 25 flX10_117 plX10 91 (by decide) (ce_91 g _) (ce_91 g _) (Nat.le_of_ble_eq_true rfl) rfl rfl rfl dX10_one_22 rfl ?_
      have hgo : okS n (psGo s) := ⟨hil, hs.2⟩
      refine k_aload_n C 26 2 rfl rfl dX10_one_25 rfl ?_
      refine k_iconst C 27 (v := 2) (by decide) dX10_one_26 rfl ?_
      refine k_iload_n C 28 0 rfl rfl dX10_one_27 rfl ?_
      refine k_callVU C 31 (As := [.int 2, .int (nI i)]) (st := []) 91 (by decide) (ce_91 g _) rfl rfl mwX10_135 vlX10_step (qX10_step l g (mu M 91 13 (nI (s.1 + 1))) (z := (psGo s).2.1) hgo.2 (mC_go hC).2.1 2 (nI i)) mlX10_step (by omega) (by decide) rfl rfl (Nat.le_of_ble_eq_true rfl) dX10_one_28 rfl ?_
      refine k_goto C 58 dX10_one_31 (by decide) ?_
      refine k_vret C dX10_one_58 ?_
      simp only [pSg]
      rw [if_neg (show ¬ isDg _ = true by rw [hi.1]; decide), if_neg (fun q => q.elim hi.2.1 hi.2.2.1), q12]
      have h9 := (mC_add (mC_go hC) 2 (nI i) (-1 - nI i) (Or.inr (Or.inl ⟨rfl, i, hi3, rfl, rfl⟩)))
      rw [psAdd_go] at h9
      exact mR_t h9
set_option maxHeartbeats 4000000 in
set_option maxRecDepth 20000 in
theorem qX10_one_s (l : Launch) (g : GT) (od : Nat) (h5 : od < 5) (hS : HSm l g od) (hJ : HJm l g od) (M0 M : Mem) {n u : Nat} (s : PS) (hH : mH M0 n u) (hs : okS n s) (hC : mC M0 M (od + 1) s) : CtrV l g yX10_one cX10_one 3 (8 * (od + 1) + 3) [.ref (ga g 91)] M (fun M1 => mR M0 M1 (od + 1) (pSg (smf (M0 92) n) u (od + 1) s)) := by
  refine ctrV_of (by decide +kernel) (Nat.le_of_ble_eq_true rfl) ?_
  intro pP eE RR sS mI aG bB mE cD C
  refine k_lo (lo' := [(0, .ref (ga g 91))]) rfl ?_
  have hn60 := hH.2.1
  have hp := hs.1
  have hz := hs.2
  refine k_aload_n C 1 0 rfl rfl dX10_one_0 rfl ?_
  refine k_callVE C 4 (As := []) (st := []) 91 (by decide) (ce_91 g _) rfl rfl mwX10_127 vlX10_look (qX10_look l g M0 M hH (p := s.1) hC.1 hs.1 hC.2.2.2.2.2) mlX10_look (by omega) (by decide) rfl rfl (Nat.le_of_ble_eq_true rfl) dX10_one_1 rfl ?_
  refine k_istore_n C 5 [(1, .int (smf (M0 92) n s.1)), (0, .ref (ga g 91))] rfl (by decide) rfl dX10_one_4 rfl ?_
  refine k_aload_n C 6 1 rfl rfl dX10_one_5 rfl ?_
  refine k_iload_n C 7 0 rfl rfl dX10_one_6 rfl ?_
  refine k_callVE C 10 (As := [.int (smf (M0 92) n s.1)]) (st := []) 91 (by decide) (ce_91 g _) rfl rfl mwX10_148 vlX10_nameOf (qX10_nameOf l g M (u := u) hH.2.2.2 ((hC.2.2.2.2.2 91 16 (by unfold rdS; omega)).trans hH.2.2.1) (smf (M0 92) n s.1)) mlX10_nameOf (by omega) (by decide) rfl rfl (Nat.le_of_ble_eq_true rfl) dX10_one_7 rfl ?_
  refine k_istore_n C 11 [(2, .int (oI (pName u ((smf (M0 92) n) s.1)))), (1, .int (smf (M0 92) n s.1)), (0, .ref (ga g 91))] rfl (by decide) rfl dX10_one_10 rfl ?_
  refine k_iload_n C 12 0 rfl rfl dX10_one_11 rfl ?_
  rcases q12 : pName u ((smf (M0 92) n) s.1) with _ | i
  · skip
    have q12n := q12
    refine k_teq (y := (-1)) rfl ?_
    refine k_lo (lo' := [(2, .int (-1)), (1, .int (smf (M0 92) n s.1)), (0, .ref (ga g 91))]) rfl ?_
    refine k_if_lt C 34 15 dX10_one_12 (by decide) rfl (fun c12 => ?_) (fun d12 => ?_)
    · skip
      refine k_iload_n C 35 1 rfl rfl dX10_one_34 rfl ?_
      refine k_bipush C 37 (v := 33) (by decide) dX10_one_35 rfl ?_
      refine k_icmp_eq C 46 40 dX10_one_37 (by decide) rfl (fun c37 => ?_) (fun d37 => ?_)
      · skip
        refine k_aload_n C 47 2 rfl rfl dX10_one_46 rfl ?_
        refine k_iload_n C 48 1 rfl rfl dX10_one_47 rfl ?_
        refine k_callVV C 51 (As := [.int (smf (M0 92) n s.1)]) (st := []) 91 (by decide) (ce_91 g _) rfl rfl mwX10_151 vlX10_opens (qX10_opens_s l g od h5 hS hJ M0 M s hH hs hC ((smf (M0 92) n) s.1) rfl (Or.inl c37)) mlX10_opens (by omega) (by decide) rfl rfl (Nat.le_of_ble_eq_true rfl) dX10_one_48 rfl (fun MO hMO => ?_)
        refine k_goto C 58 dX10_one_51 (by decide) ?_
        refine k_vret C dX10_one_58 ?_
        simp only [pSg]
        rw [if_neg (show ¬ isDg _ = true by rw [c37]; decide)]
        have e := hMO
        unfold pOpen at e
        rw [if_pos c37] at e
        rw [if_pos c37]
        exact e
      · skip
        refine k_iload_n C 41 1 rfl rfl dX10_one_40 rfl ?_
        refine k_bipush C 43 (v := 40) (by decide) dX10_one_41 rfl ?_
        refine k_icmp_ne C 54 46 dX10_one_43 (by decide) rfl (fun c43 => ?_) (fun d43 => ?_)
        · skip
          refine k_aload_n C 55 2 rfl rfl dX10_one_54 rfl ?_
          refine k_callVV C 58 (As := []) (st := []) 91 (by decide) (ce_91 g _) rfl rfl mwX10_155 vlX10_number (qX10_number l g (od + 1) M0 M s hH hs hC) mlX10_number (by omega) (by decide) rfl rfl (Nat.le_of_ble_eq_true rfl) dX10_one_55 rfl (fun MN hMN => ?_)
          refine k_vret C dX10_one_58 ?_
          cases hdg : isDg ((smf (M0 92) n) s.1) with
          | true =>
            simp only [pSg]; rw [if_pos hdg]; exact mR_t (hMN.1 hdg)
          | false =>
            simp only [pSg]; rw [if_neg (by rw [hdg]; decide), if_neg d37, if_neg c43, q12]; exact mR_f (hMN.2 hdg)
        · skip
          refine k_aload_n C 47 2 rfl rfl dX10_one_46 rfl ?_
          refine k_iload_n C 48 1 rfl rfl dX10_one_47 rfl ?_
          refine k_callVV C 51 (As := [.int (smf (M0 92) n s.1)]) (st := []) 91 (by decide) (ce_91 g _) rfl rfl mwX10_151 vlX10_opens (qX10_opens_s l g od h5 hS hJ M0 M s hH hs hC ((smf (M0 92) n) s.1) rfl (Or.inr d43)) mlX10_opens (by omega) (by decide) rfl rfl (Nat.le_of_ble_eq_true rfl) dX10_one_48 rfl (fun MO hMO => ?_)
          refine k_goto C 58 dX10_one_51 (by decide) ?_
          refine k_vret C dX10_one_58 ?_
          simp only [pSg]
          rw [if_neg (show ¬ isDg _ = true by rw [d43]; decide)]
          have e := hMO
          unfold pOpen at e
          rw [if_neg d37] at e
          rw [if_neg d37, if_pos d43]
          exact e
    · skip
      exact absurd d12 (by decide)
  · skip
    have q12s := q12
    refine k_teq (y := nI i) rfl ?_
    refine k_lo (lo' := [(2, .int (nI i)), (1, .int (smf (M0 92) n s.1)), (0, .ref (ga g 91))]) rfl ?_
    have hi := pName_dg hH.2.2.2 q12
    have hil : s.1 < n := by
      rcases Nat.lt_or_ge s.1 n with q | q
      · exact q
      · rw [(smf_end (M0 92) n s.1 q).2.2.2.2.2 u hH.2.2.2] at q12; cases q12
    have hi3 := hi.2.2.2
    refine k_if_lt C 34 15 dX10_one_12 (by decide) rfl (fun c12 => ?_) (fun d12 => ?_)
    · skip
      have c12 := (nI_ltI (by omega) (by omega)).mp (show nI i < nI 0 from c12)
      exact absurd c12 (by omega)
    · skip
      have d12 := mt (nI_ltI (by omega) (by omega)).mpr (show ¬ (nI i < nI 0) from d12)
      refine k_aload_n C 16 2 rfl rfl dX10_one_15 rfl ?_
      refine k_dup C 17 rfl dX10_one_16 rfl ?_
      refine k_get C 20 flX10_117 91 (by decide) (v := .int ((M) 91 13)) (ce_91 g _) rfl dX10_one_17 rfl ?_
      refine k_teq (y := nI s.1) hC.1 ?_
      refine k_iconst C 21 (v := 1) (by decide) dX10_one_20 rfl ?_
      refine k_iadd C 22 dX10_one_21 rfl ?_
      refine k_teq (nI_add s.1 1) ?_
      refine k_put C 25 flX10_117 plX10 91 (by decide) (ce_91 g _) (ce_91 g _) (Nat.le_of_ble_eq_true rfl) rfl rfl rfl dX10_one_22 rfl ?_
      have hgo : okS n (psGo s) := ⟨hil, hs.2⟩
      refine k_aload_n C 26 2 rfl rfl dX10_one_25 rfl ?_
      refine k_iconst C 27 (v := 2) (by decide) dX10_one_26 rfl ?_
      refine k_iload_n C 28 0 rfl rfl dX10_one_27 rfl ?_
      refine k_callVU C 31 (As := [.int 2, .int (nI i)]) (st := []) 91 (by decide) (ce_91 g _) rfl rfl mwX10_135 vlX10_step (qX10_step l g (mu M 91 13 (nI (s.1 + 1))) (z := (psGo s).2.1) hgo.2 (mC_go hC).2.1 2 (nI i)) mlX10_step (by omega) (by decide) rfl rfl (Nat.le_of_ble_eq_true rfl) dX10_one_28 rfl ?_
      refine k_goto C 58 dX10_one_31 (by decide) ?_
      refine k_vret C dX10_one_58 ?_
      simp only [pSg]
      rw [if_neg (show ¬ isDg _ = true by rw [hi.1]; decide), if_neg hi.2.1, if_neg hi.2.2.1, q12]
      have h9 := (mC_add (mC_go hC) 2 (nI i) (-1 - nI i) (Or.inr (Or.inl ⟨rfl, i, hi3, rfl, rfl⟩)))
      rw [psAdd_go] at h9
      exact mR_t h9
set_option maxHeartbeats 4000000 in
set_option maxRecDepth 20000 in
theorem qX10_times (l : Launch) (g : GT) (od : Nat) (h5 : od ≤ 5) (hO : ∀ (M0 M : Mem) (n u : Nat) (s : PS), mH M0 n u → okS n s → mC M0 M od s → CtrV l g yX10_one cX10_one 3 (8 * od + 3) [.ref (ga g 91)] M (fun M1 => mR M0 M1 od (pJd (smf (M0 92) n) (pSg (smf (M0 92) n) u od) 0 s))) (M0 M : Mem) {n u : Nat} (s : PS) (hH : mH M0 n u) (hs : okS n s) (hC : mC M0 M od s) : CtrV l g yX10_times cX10_times 2 (8 * od + 4) [.ref (ga g 91)] M (fun M1 => mR M0 M1 od (pJd (smf (M0 92) n) (pSg (smf (M0 92) n) u od) 1 s)) := by
  refine ctrV_of (by decide +kernel) (Nat.le_of_ble_eq_true rfl) ?_
  intro pP eE RR sS mI aG bB mE cD C
  refine k_lo (lo' := [(0, .ref (ga g 91))]) rfl ?_
  have hn60 := hH.2.1
  have hp := hs.1
  have hz := hs.2
  have hok1 := pJd_ok (smf_end (M0 92) n) (pSg_ok (smf_end (M0 92) n) hH.2.2.2 od) 0 (by decide) s hs
  refine k_aload_n C 1 0 rfl rfl dX10_times_0 rfl ?_
  refine k_callVV C 4 (As := []) (st := []) 91 (by decide) (ce_91 g _) rfl rfl mwX10_142 vlX10_one (hO M0 M n u s hH hs hC) mlX10_one (by omega) (by decide) rfl rfl (Nat.le_of_ble_eq_true rfl) dX10_times_1 rfl (fun M1 h1 => ?_)
  refine k_sub [(0, .ref (ga g 91))] [0] rfl ?_
  refine k_all (M' := M1) (lo' := [(0, .ref (ga g 91))]) (st' := []) (by rfl) (by rfl) rfl ?_
  refine k_loop (σ := Nat × PR × Mem) (fun (v : Nat × PR × Mem) => match v with | (i, r, M2) => (i ≤ r.2.1) ∧ (okS n r.2) ∧ (mR M0 M2 od r) ∧ ((if ((pJd (smf (M0 92) n) (pSg (smf (M0 92) n) u od) 0) s).1 = true then pLoopJ (smf (M0 92) n) (pJd (smf (M0 92) n) (pSg (smf (M0 92) n) u od) 0) (nI (5 - (0 + 1))) 60 ((pJd (smf (M0 92) n) (pSg (smf (M0 92) n) u od) 0) s).2 else (false, ((pJd (smf (M0 92) n) (pSg (smf (M0 92) n) u od) 0) s).2)) = if r.1 = true then pLoopJ (smf (M0 92) n) (pJd (smf (M0 92) n) (pSg (smf (M0 92) n) u od) 0) (nI (5 - (0 + 1))) (60 - i) r.2 else (false, r.2))) (fun (v : Nat × PR × Mem) => match v with | (i, r, M2) => 61 - i) (fun (v : Nat × PR × Mem) => match v with | (i, r, M2) => M2) (fun (v : Nat × PR × Mem) => match v with | (i, r, M2) => [(0, .ref (ga g 91))]) (0, (pJd (smf (M0 92) n) (pSg (smf (M0 92) n) u od) 0) s, M1) (show (0 ≤ ((pJd (smf (M0 92) n) (pSg (smf (M0 92) n) u od) 0) s).2.1) ∧ (okS n ((pJd (smf (M0 92) n) (pSg (smf (M0 92) n) u od) 0) s).2) ∧ (mR M0 M1 od ((pJd (smf (M0 92) n) (pSg (smf (M0 92) n) u od) 0) s)) ∧ ((if ((pJd (smf (M0 92) n) (pSg (smf (M0 92) n) u od) 0) s).1 = true then pLoopJ (smf (M0 92) n) (pJd (smf (M0 92) n) (pSg (smf (M0 92) n) u od) 0) (nI (5 - (0 + 1))) 60 ((pJd (smf (M0 92) n) (pSg (smf (M0 92) n) u od) 0) s).2 else (false, ((pJd (smf (M0 92) n) (pSg (smf (M0 92) n) u od) 0) s).2)) = if ((pJd (smf (M0 92) n) (pSg (smf (M0 92) n) u od) 0) s).1 = true then pLoopJ (smf (M0 92) n) (pJd (smf (M0 92) n) (pSg (smf (M0 92) n) u od) 0) (nI (5 - (0 + 1))) (60 - 0) ((pJd (smf (M0 92) n) (pSg (smf (M0 92) n) u od) 0) s).2 else (false, ((pJd (smf (M0 92) n) (pSg (smf (M0 92) n) u od) 0) s).2)) from by exact ⟨Nat.zero_le _, hok1, h1, rfl⟩) ?_
  rintro ⟨i, r, M2⟩ hI ih
  have hI : (i ≤ r.2.1) ∧ (okS n r.2) ∧ (mR M0 M2 od r) ∧ ((if ((pJd (smf (M0 92) n) (pSg (smf (M0 92) n) u od) 0) s).1 = true then pLoopJ (smf (M0 92) n) (pJd (smf (M0 92) n) (pSg (smf (M0 92) n) u od) 0) (nI (5 - (0 + 1))) 60 ((pJd (smf (M0 92) n) (pSg (smf (M0 92) n) u od) 0) s).2 else (false, ((pJd (smf (M0 92) n) (pSg (smf (M0 92) n) u od) 0) s).2)) = if r.1 = true then pLoopJ (smf (M0 92) n) (pJd (smf (M0 92) n) (pSg (smf (M0 92) n) u od) 0) (nI (5 - (0 + 1))) (60 - i) r.2 else (false, r.2)) := hI
  obtain ⟨hi, hr, hR, he⟩ := hI
  show KW pP l eE RR sS mI aG bB mE cD g 2 _ (M2) 4 [(0, .ref (ga g 91))] []
  have hpr := hr.1
  cases hrt : r.1 with
  | false =>
    have h2 := hR.2 hrt
    refine k_aload_n C 5 0 rfl rfl dX10_times_4 rfl ?_
    refine k_get C 8 flX10_131 91 (by decide) (v := .int ((M2) 91 15)) (ce_91 g _) rfl dX10_times_5 rfl ?_
    refine k_teq (y := 1) h2.2.2.2.1 ?_
    refine k_if_ne C 66 11 dX10_times_8 (by decide) rfl (fun c8 => ?_) (fun d8 => ?_)
    · skip
      refine k_vret C dX10_times_66 ?_
      show mR M0 M2 od (pJd (smf (M0 92) n) (pSg (smf (M0 92) n) u od) 1 s)
      have hf : (pJd (smf (M0 92) n) (pSg (smf (M0 92) n) u od) 1 s) = (if ((pJd (smf (M0 92) n) (pSg (smf (M0 92) n) u od) 0) s).1 = true then pLoopJ (smf (M0 92) n) (pJd (smf (M0 92) n) (pSg (smf (M0 92) n) u od) 0) (nI (5 - (0 + 1))) 60 ((pJd (smf (M0 92) n) (pSg (smf (M0 92) n) u od) 0) s).2 else (false, ((pJd (smf (M0 92) n) (pSg (smf (M0 92) n) u od) 0) s).2)) := by simp only [pJd]; rfl
      rw [hf, he]
      rw [if_neg (by rw [hrt]; decide)]; exact mR_f h2
    · skip
      exact absurd d8 (by decide)
  | true =>
    have h2 := hR.1 hrt
    refine k_aload_n C 5 0 rfl rfl dX10_times_4 rfl ?_
    refine k_get C 8 flX10_131 91 (by decide) (v := .int ((M2) 91 15)) (ce_91 g _) rfl dX10_times_5 rfl ?_
    refine k_teq (y := 0) h2.2.2.2.2.1 ?_
    refine k_if_ne C 66 11 dX10_times_8 (by decide) rfl (fun c8 => ?_) (fun d8 => ?_)
    · skip
      exact absurd c8 (by decide)
    · skip
      refine k_aload_n C 12 0 rfl rfl dX10_times_11 rfl ?_
      refine k_callVE C 15 (As := []) (st := []) 91 (by decide) (ce_91 g _) rfl rfl mwX10_127 vlX10_look (qX10_look l g M0 M2 hH (p := r.2.1) h2.1 hr.1 h2.2.2.2.2.2) mlX10_look (by omega) (by decide) rfl rfl (Nat.le_of_ble_eq_true rfl) dX10_times_12 rfl ?_
      refine k_bipush C 17 (v := 42) (by decide) dX10_times_15 rfl ?_
      refine k_icmp_eq C 38 20 dX10_times_17 (by decide) rfl (fun c17 => ?_) (fun d17 => ?_)
      · skip
        refine k_aload_n C 39 0 rfl rfl dX10_times_38 rfl ?_
        refine k_callVE C 42 (As := []) (st := []) 91 (by decide) (ce_91 g _) rfl rfl mwX10_127 vlX10_look (qX10_look l g M0 M2 hH (p := r.2.1) h2.1 hr.1 h2.2.2.2.2.2) mlX10_look (by omega) (by decide) rfl rfl (Nat.le_of_ble_eq_true rfl) dX10_times_39 rfl ?_
        refine k_istore_n C 43 [(1, .int (smf (M0 92) n r.2.1)), (0, .ref (ga g 91))] rfl (by decide) rfl dX10_times_42 rfl ?_
        refine k_aload_n C 44 1 rfl rfl dX10_times_43 rfl ?_
        refine k_dup C 45 rfl dX10_times_44 rfl ?_
        refine k_get C 48 flX10_117 91 (by decide) (v := .int ((M2) 91 13)) (ce_91 g _) rfl dX10_times_45 rfl ?_
        refine k_teq (y := nI r.2.1) h2.1 ?_
        refine k_iconst C 49 (v := 1) (by decide) dX10_times_48 rfl ?_
        refine k_iadd C 50 dX10_times_49 rfl ?_
        refine k_teq (nI_add r.2.1 1) ?_
        refine k_put C 53 flX10_117 plX10 91 (by decide) (ce_91 g _) (ce_91 g _) (Nat.le_of_ble_eq_true rfl) rfl rfl rfl dX10_times_50 rfl ?_
        refine k_aload_n C 54 1 rfl rfl dX10_times_53 rfl ?_
        have hlv : pLvl ((smf (M0 92) n) r.2.1) = nI (5 - (0 + 1)) := by rw [c17]; decide
        have hlt := lvl_in (smf_end (M0 92) n) (show 5 - (0 + 1) ≤ 5 by decide) hlv
        have hgo : okS n (psGo r.2) := ⟨hlt, hr.2⟩
        refine k_callVV C 57 (As := []) (st := []) 91 (by decide) (ce_91 g _) rfl rfl mwX10_142 vlX10_one (hO M0 _ n u (psGo r.2) hH hgo (mC_go h2)) mlX10_one (by omega) (by decide) rfl rfl (Nat.le_of_ble_eq_true rfl) dX10_times_54 rfl (fun M3 h3 => ?_)
        have hmo := pJd_mono (sg := (smf (M0 92) n)) (pSg_mono (smf (M0 92) n) u od) 0 (psGo r.2)
        have hok3 := pJd_ok (smf_end (M0 92) n) (pSg_ok (smf_end (M0 92) n) hH.2.2.2 od) 0 (by decide) (psGo r.2) hgo
        cases hr3 : ((pJd (smf (M0 92) n) (pSg (smf (M0 92) n) u od) 0) (psGo r.2)).1 with
        | false =>
          have h4 := h3.2 hr3
          obtain ⟨z, hz, hz12⟩ := h4.2.1
          refine k_aload_n C 58 1 rfl rfl dX10_times_57 rfl ?_
          refine k_iload_n C 59 0 rfl rfl dX10_times_58 rfl ?_
          refine k_iconst C 60 (v := 0) (by decide) dX10_times_59 rfl ?_
          refine k_callVU C 63 (As := [.int (smf (M0 92) n r.2.1), .int 0]) (st := []) 91 (by decide) (ce_91 g _) rfl rfl mwX10_135 vlX10_step (qX10_step l g M3 (z := z) hz hz12 (smf (M0 92) n r.2.1) 0) mlX10_step (by omega) (by decide) rfl rfl (Nat.le_of_ble_eq_true rfl) dX10_times_60 rfl ?_
          refine k_goto C 4 dX10_times_63 (by decide) ?_
          refine k_sub [(0, .ref (ga g 91))] [1] rfl ?_
          refine k_all (M' := (stM M3 z (smf (M0 92) n r.2.1) 0)) (lo' := [(0, .ref (ga g 91))]) (st' := []) (by rfl) (by rfl) rfl ?_
          exact ih (i + 1, (false, ((pJd (smf (M0 92) n) (pSg (smf (M0 92) n) u od) 0) (psGo r.2)).2), stM M3 z (smf (M0 92) n r.2.1) 0) (show ((i + 1) ≤ (false, ((pJd (smf (M0 92) n) (pSg (smf (M0 92) n) u od) 0) (psGo r.2)).2).2.1) ∧ (okS n (false, ((pJd (smf (M0 92) n) (pSg (smf (M0 92) n) u od) 0) (psGo r.2)).2).2) ∧ (mR M0 (stM M3 z (smf (M0 92) n r.2.1) 0) od (false, ((pJd (smf (M0 92) n) (pSg (smf (M0 92) n) u od) 0) (psGo r.2)).2)) ∧ ((if ((pJd (smf (M0 92) n) (pSg (smf (M0 92) n) u od) 0) s).1 = true then pLoopJ (smf (M0 92) n) (pJd (smf (M0 92) n) (pSg (smf (M0 92) n) u od) 0) (nI (5 - (0 + 1))) 60 ((pJd (smf (M0 92) n) (pSg (smf (M0 92) n) u od) 0) s).2 else (false, ((pJd (smf (M0 92) n) (pSg (smf (M0 92) n) u od) 0) s).2)) = if (false, ((pJd (smf (M0 92) n) (pSg (smf (M0 92) n) u od) 0) (psGo r.2)).2).1 = true then pLoopJ (smf (M0 92) n) (pJd (smf (M0 92) n) (pSg (smf (M0 92) n) u od) 0) (nI (5 - (0 + 1))) (60 - (i + 1)) (false, ((pJd (smf (M0 92) n) (pSg (smf (M0 92) n) u od) 0) (psGo r.2)).2).2 else (false, (false, ((pJd (smf (M0 92) n) (pSg (smf (M0 92) n) u od) 0) (psGo r.2)).2).2)) from by exact ⟨Nat.le_trans (Nat.succ_le_succ hi) hmo, hok3, mR_f (mB_add h4 hz hz12 (smf (M0 92) n r.2.1) 0), by rw [he, if_pos hrt, show 60 - i = (60 - (i + 1)) + 1 by omega]; simp only [pLoopJ]; rw [if_pos hlv, if_neg (by rw [hr3]; decide), if_neg (by decide)]⟩) (by show 61 - (i + 1) < 61 - i; omega)
        | true =>
          have h4 := h3.1 hr3
          refine k_aload_n C 58 1 rfl rfl dX10_times_57 rfl ?_
          refine k_iload_n C 59 0 rfl rfl dX10_times_58 rfl ?_
          refine k_iconst C 60 (v := 0) (by decide) dX10_times_59 rfl ?_
          refine k_callVU C 63 (As := [.int (smf (M0 92) n r.2.1), .int 0]) (st := []) 91 (by decide) (ce_91 g _) rfl rfl mwX10_135 vlX10_step (qX10_step l g M3 (z := (((pJd (smf (M0 92) n) (pSg (smf (M0 92) n) u od) 0) (psGo r.2)).2).2.1) hok3.2 h4.2.1 (smf (M0 92) n r.2.1) 0) mlX10_step (by omega) (by decide) rfl rfl (Nat.le_of_ble_eq_true rfl) dX10_times_60 rfl ?_
          refine k_goto C 4 dX10_times_63 (by decide) ?_
          refine k_sub [(0, .ref (ga g 91))] [1] rfl ?_
          refine k_all (M' := (stM M3 ((((pJd (smf (M0 92) n) (pSg (smf (M0 92) n) u od) 0) (psGo r.2)).2).2.1) (smf (M0 92) n r.2.1) 0)) (lo' := [(0, .ref (ga g 91))]) (st' := []) (by rfl) (by rfl) rfl ?_
          exact ih (i + 1, (true, psAdd ((pJd (smf (M0 92) n) (pSg (smf (M0 92) n) u od) 0) (psGo r.2)).2 (-((smf (M0 92) n) r.2.1))), stM M3 ((((pJd (smf (M0 92) n) (pSg (smf (M0 92) n) u od) 0) (psGo r.2)).2).2.1) (smf (M0 92) n r.2.1) 0) (show ((i + 1) ≤ (true, psAdd ((pJd (smf (M0 92) n) (pSg (smf (M0 92) n) u od) 0) (psGo r.2)).2 (-((smf (M0 92) n) r.2.1))).2.1) ∧ (okS n (true, psAdd ((pJd (smf (M0 92) n) (pSg (smf (M0 92) n) u od) 0) (psGo r.2)).2 (-((smf (M0 92) n) r.2.1))).2) ∧ (mR M0 (stM M3 ((((pJd (smf (M0 92) n) (pSg (smf (M0 92) n) u od) 0) (psGo r.2)).2).2.1) (smf (M0 92) n r.2.1) 0) od (true, psAdd ((pJd (smf (M0 92) n) (pSg (smf (M0 92) n) u od) 0) (psGo r.2)).2 (-((smf (M0 92) n) r.2.1)))) ∧ ((if ((pJd (smf (M0 92) n) (pSg (smf (M0 92) n) u od) 0) s).1 = true then pLoopJ (smf (M0 92) n) (pJd (smf (M0 92) n) (pSg (smf (M0 92) n) u od) 0) (nI (5 - (0 + 1))) 60 ((pJd (smf (M0 92) n) (pSg (smf (M0 92) n) u od) 0) s).2 else (false, ((pJd (smf (M0 92) n) (pSg (smf (M0 92) n) u od) 0) s).2)) = if (true, psAdd ((pJd (smf (M0 92) n) (pSg (smf (M0 92) n) u od) 0) (psGo r.2)).2 (-((smf (M0 92) n) r.2.1))).1 = true then pLoopJ (smf (M0 92) n) (pJd (smf (M0 92) n) (pSg (smf (M0 92) n) u od) 0) (nI (5 - (0 + 1))) (60 - (i + 1)) (true, psAdd ((pJd (smf (M0 92) n) (pSg (smf (M0 92) n) u od) 0) (psGo r.2)).2 (-((smf (M0 92) n) r.2.1))).2 else (false, (true, psAdd ((pJd (smf (M0 92) n) (pSg (smf (M0 92) n) u od) 0) (psGo r.2)).2 (-((smf (M0 92) n) r.2.1))).2)) from by exact ⟨by show i + 1 ≤ (psAdd _ _).1; rw [psAdd_1]; exact Nat.le_trans (Nat.succ_le_succ hi) hmo, psAdd_ok _ hok3, mR_t (mC_add h4 (smf (M0 92) n r.2.1) 0 (-((smf (M0 92) n) r.2.1)) (sign_ok (by decide) hlv)), by rw [he, if_pos hrt, show 60 - i = (60 - (i + 1)) + 1 by omega]; simp only [pLoopJ]; rw [if_pos hlv, if_pos hr3, if_pos trivial]⟩) (by show 61 - (i + 1) < 61 - i; omega)
      · skip
        refine k_aload_n C 21 0 rfl rfl dX10_times_20 rfl ?_
        refine k_callVE C 24 (As := []) (st := []) 91 (by decide) (ce_91 g _) rfl rfl mwX10_127 vlX10_look (qX10_look l g M0 M2 hH (p := r.2.1) h2.1 hr.1 h2.2.2.2.2.2) mlX10_look (by omega) (by decide) rfl rfl (Nat.le_of_ble_eq_true rfl) dX10_times_21 rfl ?_
        refine k_bipush C 26 (v := 47) (by decide) dX10_times_24 rfl ?_
        refine k_icmp_eq C 38 29 dX10_times_26 (by decide) rfl (fun c26 => ?_) (fun d26 => ?_)
        · skip
          refine k_aload_n C 39 0 rfl rfl dX10_times_38 rfl ?_
          refine k_callVE C 42 (As := []) (st := []) 91 (by decide) (ce_91 g _) rfl rfl mwX10_127 vlX10_look (qX10_look l g M0 M2 hH (p := r.2.1) h2.1 hr.1 h2.2.2.2.2.2) mlX10_look (by omega) (by decide) rfl rfl (Nat.le_of_ble_eq_true rfl) dX10_times_39 rfl ?_
          refine k_istore_n C 43 [(1, .int (smf (M0 92) n r.2.1)), (0, .ref (ga g 91))] rfl (by decide) rfl dX10_times_42 rfl ?_
          refine k_aload_n C 44 1 rfl rfl dX10_times_43 rfl ?_
          refine k_dup C 45 rfl dX10_times_44 rfl ?_
          refine k_get C 48 flX10_117 91 (by decide) (v := .int ((M2) 91 13)) (ce_91 g _) rfl dX10_times_45 rfl ?_
          refine k_teq (y := nI r.2.1) h2.1 ?_
          refine k_iconst C 49 (v := 1) (by decide) dX10_times_48 rfl ?_
          refine k_iadd C 50 dX10_times_49 rfl ?_
          refine k_teq (nI_add r.2.1 1) ?_
          refine k_put C 53 flX10_117 plX10 91 (by decide) (ce_91 g _) (ce_91 g _) (Nat.le_of_ble_eq_true rfl) rfl rfl rfl dX10_times_50 rfl ?_
          refine k_aload_n C 54 1 rfl rfl dX10_times_53 rfl ?_
          have hlv : pLvl ((smf (M0 92) n) r.2.1) = nI (5 - (0 + 1)) := by rw [c26]; decide
          have hlt := lvl_in (smf_end (M0 92) n) (show 5 - (0 + 1) ≤ 5 by decide) hlv
          have hgo : okS n (psGo r.2) := ⟨hlt, hr.2⟩
          refine k_callVV C 57 (As := []) (st := []) 91 (by decide) (ce_91 g _) rfl rfl mwX10_142 vlX10_one (hO M0 _ n u (psGo r.2) hH hgo (mC_go h2)) mlX10_one (by omega) (by decide) rfl rfl (Nat.le_of_ble_eq_true rfl) dX10_times_54 rfl (fun M3 h3 => ?_)
          have hmo := pJd_mono (sg := (smf (M0 92) n)) (pSg_mono (smf (M0 92) n) u od) 0 (psGo r.2)
          have hok3 := pJd_ok (smf_end (M0 92) n) (pSg_ok (smf_end (M0 92) n) hH.2.2.2 od) 0 (by decide) (psGo r.2) hgo
          cases hr3 : ((pJd (smf (M0 92) n) (pSg (smf (M0 92) n) u od) 0) (psGo r.2)).1 with
          | false =>
            have h4 := h3.2 hr3
            obtain ⟨z, hz, hz12⟩ := h4.2.1
            refine k_aload_n C 58 1 rfl rfl dX10_times_57 rfl ?_
            refine k_iload_n C 59 0 rfl rfl dX10_times_58 rfl ?_
            refine k_iconst C 60 (v := 0) (by decide) dX10_times_59 rfl ?_
            refine k_callVU C 63 (As := [.int (smf (M0 92) n r.2.1), .int 0]) (st := []) 91 (by decide) (ce_91 g _) rfl rfl mwX10_135 vlX10_step (qX10_step l g M3 (z := z) hz hz12 (smf (M0 92) n r.2.1) 0) mlX10_step (by omega) (by decide) rfl rfl (Nat.le_of_ble_eq_true rfl) dX10_times_60 rfl ?_
            refine k_goto C 4 dX10_times_63 (by decide) ?_
            refine k_sub [(0, .ref (ga g 91))] [1] rfl ?_
            refine k_all (M' := (stM M3 z (smf (M0 92) n r.2.1) 0)) (lo' := [(0, .ref (ga g 91))]) (st' := []) (by rfl) (by rfl) rfl ?_
            exact ih (i + 1, (false, ((pJd (smf (M0 92) n) (pSg (smf (M0 92) n) u od) 0) (psGo r.2)).2), stM M3 z (smf (M0 92) n r.2.1) 0) (show ((i + 1) ≤ (false, ((pJd (smf (M0 92) n) (pSg (smf (M0 92) n) u od) 0) (psGo r.2)).2).2.1) ∧ (okS n (false, ((pJd (smf (M0 92) n) (pSg (smf (M0 92) n) u od) 0) (psGo r.2)).2).2) ∧ (mR M0 (stM M3 z (smf (M0 92) n r.2.1) 0) od (false, ((pJd (smf (M0 92) n) (pSg (smf (M0 92) n) u od) 0) (psGo r.2)).2)) ∧ ((if ((pJd (smf (M0 92) n) (pSg (smf (M0 92) n) u od) 0) s).1 = true then pLoopJ (smf (M0 92) n) (pJd (smf (M0 92) n) (pSg (smf (M0 92) n) u od) 0) (nI (5 - (0 + 1))) 60 ((pJd (smf (M0 92) n) (pSg (smf (M0 92) n) u od) 0) s).2 else (false, ((pJd (smf (M0 92) n) (pSg (smf (M0 92) n) u od) 0) s).2)) = if (false, ((pJd (smf (M0 92) n) (pSg (smf (M0 92) n) u od) 0) (psGo r.2)).2).1 = true then pLoopJ (smf (M0 92) n) (pJd (smf (M0 92) n) (pSg (smf (M0 92) n) u od) 0) (nI (5 - (0 + 1))) (60 - (i + 1)) (false, ((pJd (smf (M0 92) n) (pSg (smf (M0 92) n) u od) 0) (psGo r.2)).2).2 else (false, (false, ((pJd (smf (M0 92) n) (pSg (smf (M0 92) n) u od) 0) (psGo r.2)).2).2)) from by exact ⟨Nat.le_trans (Nat.succ_le_succ hi) hmo, hok3, mR_f (mB_add h4 hz hz12 (smf (M0 92) n r.2.1) 0), by rw [he, if_pos hrt, show 60 - i = (60 - (i + 1)) + 1 by omega]; simp only [pLoopJ]; rw [if_pos hlv, if_neg (by rw [hr3]; decide), if_neg (by decide)]⟩) (by show 61 - (i + 1) < 61 - i; omega)
          | true =>
            have h4 := h3.1 hr3
            refine k_aload_n C 58 1 rfl rfl dX10_times_57 rfl ?_
            refine k_iload_n C 59 0 rfl rfl dX10_times_58 rfl ?_
            refine k_iconst C 60 (v := 0) (by decide) dX10_times_59 rfl ?_
            refine k_callVU C 63 (As := [.int (smf (M0 92) n r.2.1), .int 0]) (st := []) 91 (by decide) (ce_91 g _) rfl rfl mwX10_135 vlX10_step (qX10_step l g M3 (z := (((pJd (smf (M0 92) n) (pSg (smf (M0 92) n) u od) 0) (psGo r.2)).2).2.1) hok3.2 h4.2.1 (smf (M0 92) n r.2.1) 0) mlX10_step (by omega) (by decide) rfl rfl (Nat.le_of_ble_eq_true rfl) dX10_times_60 rfl ?_
            refine k_goto C 4 dX10_times_63 (by decide) ?_
            refine k_sub [(0, .ref (ga g 91))] [1] rfl ?_
            refine k_all (M' := (stM M3 ((((pJd (smf (M0 92) n) (pSg (smf (M0 92) n) u od) 0) (psGo r.2)).2).2.1) (smf (M0 92) n r.2.1) 0)) (lo' := [(0, .ref (ga g 91))]) (st' := []) (by rfl) (by rfl) rfl ?_
            exact ih (i + 1, (true, psAdd ((pJd (smf (M0 92) n) (pSg (smf (M0 92) n) u od) 0) (psGo r.2)).2 (-((smf (M0 92) n) r.2.1))), stM M3 ((((pJd (smf (M0 92) n) (pSg (smf (M0 92) n) u od) 0) (psGo r.2)).2).2.1) (smf (M0 92) n r.2.1) 0) (show ((i + 1) ≤ (true, psAdd ((pJd (smf (M0 92) n) (pSg (smf (M0 92) n) u od) 0) (psGo r.2)).2 (-((smf (M0 92) n) r.2.1))).2.1) ∧ (okS n (true, psAdd ((pJd (smf (M0 92) n) (pSg (smf (M0 92) n) u od) 0) (psGo r.2)).2 (-((smf (M0 92) n) r.2.1))).2) ∧ (mR M0 (stM M3 ((((pJd (smf (M0 92) n) (pSg (smf (M0 92) n) u od) 0) (psGo r.2)).2).2.1) (smf (M0 92) n r.2.1) 0) od (true, psAdd ((pJd (smf (M0 92) n) (pSg (smf (M0 92) n) u od) 0) (psGo r.2)).2 (-((smf (M0 92) n) r.2.1)))) ∧ ((if ((pJd (smf (M0 92) n) (pSg (smf (M0 92) n) u od) 0) s).1 = true then pLoopJ (smf (M0 92) n) (pJd (smf (M0 92) n) (pSg (smf (M0 92) n) u od) 0) (nI (5 - (0 + 1))) 60 ((pJd (smf (M0 92) n) (pSg (smf (M0 92) n) u od) 0) s).2 else (false, ((pJd (smf (M0 92) n) (pSg (smf (M0 92) n) u od) 0) s).2)) = if (true, psAdd ((pJd (smf (M0 92) n) (pSg (smf (M0 92) n) u od) 0) (psGo r.2)).2 (-((smf (M0 92) n) r.2.1))).1 = true then pLoopJ (smf (M0 92) n) (pJd (smf (M0 92) n) (pSg (smf (M0 92) n) u od) 0) (nI (5 - (0 + 1))) (60 - (i + 1)) (true, psAdd ((pJd (smf (M0 92) n) (pSg (smf (M0 92) n) u od) 0) (psGo r.2)).2 (-((smf (M0 92) n) r.2.1))).2 else (false, (true, psAdd ((pJd (smf (M0 92) n) (pSg (smf (M0 92) n) u od) 0) (psGo r.2)).2 (-((smf (M0 92) n) r.2.1))).2)) from by exact ⟨by show i + 1 ≤ (psAdd _ _).1; rw [psAdd_1]; exact Nat.le_trans (Nat.succ_le_succ hi) hmo, psAdd_ok _ hok3, mR_t (mC_add h4 (smf (M0 92) n r.2.1) 0 (-((smf (M0 92) n) r.2.1)) (sign_ok (by decide) hlv)), by rw [he, if_pos hrt, show 60 - i = (60 - (i + 1)) + 1 by omega]; simp only [pLoopJ]; rw [if_pos hlv, if_pos hr3, if_pos trivial]⟩) (by show 61 - (i + 1) < 61 - i; omega)
        · skip
          refine k_aload_n C 30 0 rfl rfl dX10_times_29 rfl ?_
          refine k_callVE C 33 (As := []) (st := []) 91 (by decide) (ce_91 g _) rfl rfl mwX10_127 vlX10_look (qX10_look l g M0 M2 hH (p := r.2.1) h2.1 hr.1 h2.2.2.2.2.2) mlX10_look (by omega) (by decide) rfl rfl (Nat.le_of_ble_eq_true rfl) dX10_times_30 rfl ?_
          refine k_bipush C 35 (v := 37) (by decide) dX10_times_33 rfl ?_
          refine k_icmp_ne C 66 38 dX10_times_35 (by decide) rfl (fun c35 => ?_) (fun d35 => ?_)
          · skip
            refine k_vret C dX10_times_66 ?_
            show mR M0 M2 od (pJd (smf (M0 92) n) (pSg (smf (M0 92) n) u od) 1 s)
            have hf : (pJd (smf (M0 92) n) (pSg (smf (M0 92) n) u od) 1 s) = (if ((pJd (smf (M0 92) n) (pSg (smf (M0 92) n) u od) 0) s).1 = true then pLoopJ (smf (M0 92) n) (pJd (smf (M0 92) n) (pSg (smf (M0 92) n) u od) 0) (nI (5 - (0 + 1))) 60 ((pJd (smf (M0 92) n) (pSg (smf (M0 92) n) u od) 0) s).2 else (false, ((pJd (smf (M0 92) n) (pSg (smf (M0 92) n) u od) 0) s).2)) := by simp only [pJd]; rfl
            rw [hf, he]
            rw [if_pos hrt]
            have hx : pLoopJ (smf (M0 92) n) (pJd (smf (M0 92) n) (pSg (smf (M0 92) n) u od) 0) (nI (5 - (0 + 1))) (60 - i) r.2 = (true, r.2) := by
              cases hk : 60 - i with
              | zero => rfl
              | succ k => simp only [pLoopJ]; rw [if_neg (show ¬ pLvl _ = nI (5 - (0 + 1)) from lvl_4 d17 d26 c35)]
            rw [hx]; exact mR_t h2
          · skip
            refine k_aload_n C 39 0 rfl rfl dX10_times_38 rfl ?_
            refine k_callVE C 42 (As := []) (st := []) 91 (by decide) (ce_91 g _) rfl rfl mwX10_127 vlX10_look (qX10_look l g M0 M2 hH (p := r.2.1) h2.1 hr.1 h2.2.2.2.2.2) mlX10_look (by omega) (by decide) rfl rfl (Nat.le_of_ble_eq_true rfl) dX10_times_39 rfl ?_
            refine k_istore_n C 43 [(1, .int (smf (M0 92) n r.2.1)), (0, .ref (ga g 91))] rfl (by decide) rfl dX10_times_42 rfl ?_
            refine k_aload_n C 44 1 rfl rfl dX10_times_43 rfl ?_
            refine k_dup C 45 rfl dX10_times_44 rfl ?_
            refine k_get C 48 flX10_117 91 (by decide) (v := .int ((M2) 91 13)) (ce_91 g _) rfl dX10_times_45 rfl ?_
            refine k_teq (y := nI r.2.1) h2.1 ?_
            refine k_iconst C 49 (v := 1) (by decide) dX10_times_48 rfl ?_
            refine k_iadd C 50 dX10_times_49 rfl ?_
            refine k_teq (nI_add r.2.1 1) ?_
            refine k_put C 53 flX10_117 plX10 91 (by decide) (ce_91 g _) (ce_91 g _) (Nat.le_of_ble_eq_true rfl) rfl rfl rfl dX10_times_50 rfl ?_
            refine k_aload_n C 54 1 rfl rfl dX10_times_53 rfl ?_
            have hlv : pLvl ((smf (M0 92) n) r.2.1) = nI (5 - (0 + 1)) := by rw [d35]; decide
            have hlt := lvl_in (smf_end (M0 92) n) (show 5 - (0 + 1) ≤ 5 by decide) hlv
            have hgo : okS n (psGo r.2) := ⟨hlt, hr.2⟩
            refine k_callVV C 57 (As := []) (st := []) 91 (by decide) (ce_91 g _) rfl rfl mwX10_142 vlX10_one (hO M0 _ n u (psGo r.2) hH hgo (mC_go h2)) mlX10_one (by omega) (by decide) rfl rfl (Nat.le_of_ble_eq_true rfl) dX10_times_54 rfl (fun M3 h3 => ?_)
            have hmo := pJd_mono (sg := (smf (M0 92) n)) (pSg_mono (smf (M0 92) n) u od) 0 (psGo r.2)
            have hok3 := pJd_ok (smf_end (M0 92) n) (pSg_ok (smf_end (M0 92) n) hH.2.2.2 od) 0 (by decide) (psGo r.2) hgo
            cases hr3 : ((pJd (smf (M0 92) n) (pSg (smf (M0 92) n) u od) 0) (psGo r.2)).1 with
            | false =>
              have h4 := h3.2 hr3
              obtain ⟨z, hz, hz12⟩ := h4.2.1
              refine k_aload_n C 58 1 rfl rfl dX10_times_57 rfl ?_
              refine k_iload_n C 59 0 rfl rfl dX10_times_58 rfl ?_
              refine k_iconst C 60 (v := 0) (by decide) dX10_times_59 rfl ?_
              refine k_callVU C 63 (As := [.int (smf (M0 92) n r.2.1), .int 0]) (st := []) 91 (by decide) (ce_91 g _) rfl rfl mwX10_135 vlX10_step (qX10_step l g M3 (z := z) hz hz12 (smf (M0 92) n r.2.1) 0) mlX10_step (by omega) (by decide) rfl rfl (Nat.le_of_ble_eq_true rfl) dX10_times_60 rfl ?_
              refine k_goto C 4 dX10_times_63 (by decide) ?_
              refine k_sub [(0, .ref (ga g 91))] [1] rfl ?_
              refine k_all (M' := (stM M3 z (smf (M0 92) n r.2.1) 0)) (lo' := [(0, .ref (ga g 91))]) (st' := []) (by rfl) (by rfl) rfl ?_
              exact ih (i + 1, (false, ((pJd (smf (M0 92) n) (pSg (smf (M0 92) n) u od) 0) (psGo r.2)).2), stM M3 z (smf (M0 92) n r.2.1) 0) (show ((i + 1) ≤ (false, ((pJd (smf (M0 92) n) (pSg (smf (M0 92) n) u od) 0) (psGo r.2)).2).2.1) ∧ (okS n (false, ((pJd (smf (M0 92) n) (pSg (smf (M0 92) n) u od) 0) (psGo r.2)).2).2) ∧ (mR M0 (stM M3 z (smf (M0 92) n r.2.1) 0) od (false, ((pJd (smf (M0 92) n) (pSg (smf (M0 92) n) u od) 0) (psGo r.2)).2)) ∧ ((if ((pJd (smf (M0 92) n) (pSg (smf (M0 92) n) u od) 0) s).1 = true then pLoopJ (smf (M0 92) n) (pJd (smf (M0 92) n) (pSg (smf (M0 92) n) u od) 0) (nI (5 - (0 + 1))) 60 ((pJd (smf (M0 92) n) (pSg (smf (M0 92) n) u od) 0) s).2 else (false, ((pJd (smf (M0 92) n) (pSg (smf (M0 92) n) u od) 0) s).2)) = if (false, ((pJd (smf (M0 92) n) (pSg (smf (M0 92) n) u od) 0) (psGo r.2)).2).1 = true then pLoopJ (smf (M0 92) n) (pJd (smf (M0 92) n) (pSg (smf (M0 92) n) u od) 0) (nI (5 - (0 + 1))) (60 - (i + 1)) (false, ((pJd (smf (M0 92) n) (pSg (smf (M0 92) n) u od) 0) (psGo r.2)).2).2 else (false, (false, ((pJd (smf (M0 92) n) (pSg (smf (M0 92) n) u od) 0) (psGo r.2)).2).2)) from by exact ⟨Nat.le_trans (Nat.succ_le_succ hi) hmo, hok3, mR_f (mB_add h4 hz hz12 (smf (M0 92) n r.2.1) 0), by rw [he, if_pos hrt, show 60 - i = (60 - (i + 1)) + 1 by omega]; simp only [pLoopJ]; rw [if_pos hlv, if_neg (by rw [hr3]; decide), if_neg (by decide)]⟩) (by show 61 - (i + 1) < 61 - i; omega)
            | true =>
              have h4 := h3.1 hr3
              refine k_aload_n C 58 1 rfl rfl dX10_times_57 rfl ?_
              refine k_iload_n C 59 0 rfl rfl dX10_times_58 rfl ?_
              refine k_iconst C 60 (v := 0) (by decide) dX10_times_59 rfl ?_
              refine k_callVU C 63 (As := [.int (smf (M0 92) n r.2.1), .int 0]) (st := []) 91 (by decide) (ce_91 g _) rfl rfl mwX10_135 vlX10_step (qX10_step l g M3 (z := (((pJd (smf (M0 92) n) (pSg (smf (M0 92) n) u od) 0) (psGo r.2)).2).2.1) hok3.2 h4.2.1 (smf (M0 92) n r.2.1) 0) mlX10_step (by omega) (by decide) rfl rfl (Nat.le_of_ble_eq_true rfl) dX10_times_60 rfl ?_
              refine k_goto C 4 dX10_times_63 (by decide) ?_
              refine k_sub [(0, .ref (ga g 91))] [1] rfl ?_
              refine k_all (M' := (stM M3 ((((pJd (smf (M0 92) n) (pSg (smf (M0 92) n) u od) 0) (psGo r.2)).2).2.1) (smf (M0 92) n r.2.1) 0)) (lo' := [(0, .ref (ga g 91))]) (st' := []) (by rfl) (by rfl) rfl ?_
              exact ih (i + 1, (true, psAdd ((pJd (smf (M0 92) n) (pSg (smf (M0 92) n) u od) 0) (psGo r.2)).2 (-((smf (M0 92) n) r.2.1))), stM M3 ((((pJd (smf (M0 92) n) (pSg (smf (M0 92) n) u od) 0) (psGo r.2)).2).2.1) (smf (M0 92) n r.2.1) 0) (show ((i + 1) ≤ (true, psAdd ((pJd (smf (M0 92) n) (pSg (smf (M0 92) n) u od) 0) (psGo r.2)).2 (-((smf (M0 92) n) r.2.1))).2.1) ∧ (okS n (true, psAdd ((pJd (smf (M0 92) n) (pSg (smf (M0 92) n) u od) 0) (psGo r.2)).2 (-((smf (M0 92) n) r.2.1))).2) ∧ (mR M0 (stM M3 ((((pJd (smf (M0 92) n) (pSg (smf (M0 92) n) u od) 0) (psGo r.2)).2).2.1) (smf (M0 92) n r.2.1) 0) od (true, psAdd ((pJd (smf (M0 92) n) (pSg (smf (M0 92) n) u od) 0) (psGo r.2)).2 (-((smf (M0 92) n) r.2.1)))) ∧ ((if ((pJd (smf (M0 92) n) (pSg (smf (M0 92) n) u od) 0) s).1 = true then pLoopJ (smf (M0 92) n) (pJd (smf (M0 92) n) (pSg (smf (M0 92) n) u od) 0) (nI (5 - (0 + 1))) 60 ((pJd (smf (M0 92) n) (pSg (smf (M0 92) n) u od) 0) s).2 else (false, ((pJd (smf (M0 92) n) (pSg (smf (M0 92) n) u od) 0) s).2)) = if (true, psAdd ((pJd (smf (M0 92) n) (pSg (smf (M0 92) n) u od) 0) (psGo r.2)).2 (-((smf (M0 92) n) r.2.1))).1 = true then pLoopJ (smf (M0 92) n) (pJd (smf (M0 92) n) (pSg (smf (M0 92) n) u od) 0) (nI (5 - (0 + 1))) (60 - (i + 1)) (true, psAdd ((pJd (smf (M0 92) n) (pSg (smf (M0 92) n) u od) 0) (psGo r.2)).2 (-((smf (M0 92) n) r.2.1))).2 else (false, (true, psAdd ((pJd (smf (M0 92) n) (pSg (smf (M0 92) n) u od) 0) (psGo r.2)).2 (-((smf (M0 92) n) r.2.1))).2)) from by exact ⟨by show i + 1 ≤ (psAdd _ _).1; rw [psAdd_1]; exact Nat.le_trans (Nat.succ_le_succ hi) hmo, psAdd_ok _ hok3, mR_t (mC_add h4 (smf (M0 92) n r.2.1) 0 (-((smf (M0 92) n) r.2.1)) (sign_ok (by decide) hlv)), by rw [he, if_pos hrt, show 60 - i = (60 - (i + 1)) + 1 by omega]; simp only [pLoopJ]; rw [if_pos hlv, if_pos hr3, if_pos trivial]⟩) (by show 61 - (i + 1) < 61 - i; omega)
set_option maxHeartbeats 4000000 in
set_option maxRecDepth 20000 in
theorem qX10_sum (l : Launch) (g : GT) (od : Nat) (h5 : od ≤ 5) (hO : ∀ (M0 M : Mem) (n u : Nat) (s : PS), mH M0 n u → okS n s → mC M0 M od s → CtrV l g yX10_times cX10_times 2 (8 * od + 4) [.ref (ga g 91)] M (fun M1 => mR M0 M1 od (pJd (smf (M0 92) n) (pSg (smf (M0 92) n) u od) 1 s))) (M0 M : Mem) {n u : Nat} (s : PS) (hH : mH M0 n u) (hs : okS n s) (hC : mC M0 M od s) : CtrV l g yX10_sum cX10_sum 2 (8 * od + 5) [.ref (ga g 91)] M (fun M1 => mR M0 M1 od (pJd (smf (M0 92) n) (pSg (smf (M0 92) n) u od) 2 s)) := by
  refine ctrV_of (by decide +kernel) (Nat.le_of_ble_eq_true rfl) ?_
  intro pP eE RR sS mI aG bB mE cD C
  refine k_lo (lo' := [(0, .ref (ga g 91))]) rfl ?_
  have hn60 := hH.2.1
  have hp := hs.1
  have hz := hs.2
  have hok1 := pJd_ok (smf_end (M0 92) n) (pSg_ok (smf_end (M0 92) n) hH.2.2.2 od) 1 (by decide) s hs
  refine k_aload_n C 1 0 rfl rfl dX10_sum_0 rfl ?_
  refine k_callVV C 4 (As := []) (st := []) 91 (by decide) (ce_91 g _) rfl rfl mwX10_158 vlX10_times (hO M0 M n u s hH hs hC) mlX10_times (by omega) (by decide) rfl rfl (Nat.le_of_ble_eq_true rfl) dX10_sum_1 rfl (fun M1 h1 => ?_)
  refine k_sub [(0, .ref (ga g 91))] [0] rfl ?_
  refine k_all (M' := M1) (lo' := [(0, .ref (ga g 91))]) (st' := []) (by rfl) (by rfl) rfl ?_
  refine k_loop (σ := Nat × PR × Mem) (fun (v : Nat × PR × Mem) => match v with | (i, r, M2) => (i ≤ r.2.1) ∧ (okS n r.2) ∧ (mR M0 M2 od r) ∧ ((if ((pJd (smf (M0 92) n) (pSg (smf (M0 92) n) u od) 1) s).1 = true then pLoopJ (smf (M0 92) n) (pJd (smf (M0 92) n) (pSg (smf (M0 92) n) u od) 1) (nI (5 - (1 + 1))) 60 ((pJd (smf (M0 92) n) (pSg (smf (M0 92) n) u od) 1) s).2 else (false, ((pJd (smf (M0 92) n) (pSg (smf (M0 92) n) u od) 1) s).2)) = if r.1 = true then pLoopJ (smf (M0 92) n) (pJd (smf (M0 92) n) (pSg (smf (M0 92) n) u od) 1) (nI (5 - (1 + 1))) (60 - i) r.2 else (false, r.2))) (fun (v : Nat × PR × Mem) => match v with | (i, r, M2) => 61 - i) (fun (v : Nat × PR × Mem) => match v with | (i, r, M2) => M2) (fun (v : Nat × PR × Mem) => match v with | (i, r, M2) => [(0, .ref (ga g 91))]) (0, (pJd (smf (M0 92) n) (pSg (smf (M0 92) n) u od) 1) s, M1) (show (0 ≤ ((pJd (smf (M0 92) n) (pSg (smf (M0 92) n) u od) 1) s).2.1) ∧ (okS n ((pJd (smf (M0 92) n) (pSg (smf (M0 92) n) u od) 1) s).2) ∧ (mR M0 M1 od ((pJd (smf (M0 92) n) (pSg (smf (M0 92) n) u od) 1) s)) ∧ ((if ((pJd (smf (M0 92) n) (pSg (smf (M0 92) n) u od) 1) s).1 = true then pLoopJ (smf (M0 92) n) (pJd (smf (M0 92) n) (pSg (smf (M0 92) n) u od) 1) (nI (5 - (1 + 1))) 60 ((pJd (smf (M0 92) n) (pSg (smf (M0 92) n) u od) 1) s).2 else (false, ((pJd (smf (M0 92) n) (pSg (smf (M0 92) n) u od) 1) s).2)) = if ((pJd (smf (M0 92) n) (pSg (smf (M0 92) n) u od) 1) s).1 = true then pLoopJ (smf (M0 92) n) (pJd (smf (M0 92) n) (pSg (smf (M0 92) n) u od) 1) (nI (5 - (1 + 1))) (60 - 0) ((pJd (smf (M0 92) n) (pSg (smf (M0 92) n) u od) 1) s).2 else (false, ((pJd (smf (M0 92) n) (pSg (smf (M0 92) n) u od) 1) s).2)) from by exact ⟨Nat.zero_le _, hok1, h1, rfl⟩) ?_
  rintro ⟨i, r, M2⟩ hI ih
  have hI : (i ≤ r.2.1) ∧ (okS n r.2) ∧ (mR M0 M2 od r) ∧ ((if ((pJd (smf (M0 92) n) (pSg (smf (M0 92) n) u od) 1) s).1 = true then pLoopJ (smf (M0 92) n) (pJd (smf (M0 92) n) (pSg (smf (M0 92) n) u od) 1) (nI (5 - (1 + 1))) 60 ((pJd (smf (M0 92) n) (pSg (smf (M0 92) n) u od) 1) s).2 else (false, ((pJd (smf (M0 92) n) (pSg (smf (M0 92) n) u od) 1) s).2)) = if r.1 = true then pLoopJ (smf (M0 92) n) (pJd (smf (M0 92) n) (pSg (smf (M0 92) n) u od) 1) (nI (5 - (1 + 1))) (60 - i) r.2 else (false, r.2)) := hI
  obtain ⟨hi, hr, hR, he⟩ := hI
  show KW pP l eE RR sS mI aG bB mE cD g 2 _ (M2) 4 [(0, .ref (ga g 91))] []
  have hpr := hr.1
  cases hrt : r.1 with
  | false =>
    have h2 := hR.2 hrt
    refine k_aload_n C 5 0 rfl rfl dX10_sum_4 rfl ?_
    refine k_get C 8 flX10_131 91 (by decide) (v := .int ((M2) 91 15)) (ce_91 g _) rfl dX10_sum_5 rfl ?_
    refine k_teq (y := 1) h2.2.2.2.1 ?_
    refine k_if_ne C 57 11 dX10_sum_8 (by decide) rfl (fun c8 => ?_) (fun d8 => ?_)
    · skip
      refine k_vret C dX10_sum_57 ?_
      show mR M0 M2 od (pJd (smf (M0 92) n) (pSg (smf (M0 92) n) u od) 2 s)
      have hf : (pJd (smf (M0 92) n) (pSg (smf (M0 92) n) u od) 2 s) = (if ((pJd (smf (M0 92) n) (pSg (smf (M0 92) n) u od) 1) s).1 = true then pLoopJ (smf (M0 92) n) (pJd (smf (M0 92) n) (pSg (smf (M0 92) n) u od) 1) (nI (5 - (1 + 1))) 60 ((pJd (smf (M0 92) n) (pSg (smf (M0 92) n) u od) 1) s).2 else (false, ((pJd (smf (M0 92) n) (pSg (smf (M0 92) n) u od) 1) s).2)) := by simp only [pJd]; rfl
      rw [hf, he]
      rw [if_neg (by rw [hrt]; decide)]; exact mR_f h2
    · skip
      exact absurd d8 (by decide)
  | true =>
    have h2 := hR.1 hrt
    refine k_aload_n C 5 0 rfl rfl dX10_sum_4 rfl ?_
    refine k_get C 8 flX10_131 91 (by decide) (v := .int ((M2) 91 15)) (ce_91 g _) rfl dX10_sum_5 rfl ?_
    refine k_teq (y := 0) h2.2.2.2.2.1 ?_
    refine k_if_ne C 57 11 dX10_sum_8 (by decide) rfl (fun c8 => ?_) (fun d8 => ?_)
    · skip
      exact absurd c8 (by decide)
    · skip
      refine k_aload_n C 12 0 rfl rfl dX10_sum_11 rfl ?_
      refine k_callVE C 15 (As := []) (st := []) 91 (by decide) (ce_91 g _) rfl rfl mwX10_127 vlX10_look (qX10_look l g M0 M2 hH (p := r.2.1) h2.1 hr.1 h2.2.2.2.2.2) mlX10_look (by omega) (by decide) rfl rfl (Nat.le_of_ble_eq_true rfl) dX10_sum_12 rfl ?_
      refine k_bipush C 17 (v := 43) (by decide) dX10_sum_15 rfl ?_
      refine k_icmp_eq C 29 20 dX10_sum_17 (by decide) rfl (fun c17 => ?_) (fun d17 => ?_)
      · skip
        refine k_aload_n C 30 0 rfl rfl dX10_sum_29 rfl ?_
        refine k_callVE C 33 (As := []) (st := []) 91 (by decide) (ce_91 g _) rfl rfl mwX10_127 vlX10_look (qX10_look l g M0 M2 hH (p := r.2.1) h2.1 hr.1 h2.2.2.2.2.2) mlX10_look (by omega) (by decide) rfl rfl (Nat.le_of_ble_eq_true rfl) dX10_sum_30 rfl ?_
        refine k_istore_n C 34 [(1, .int (smf (M0 92) n r.2.1)), (0, .ref (ga g 91))] rfl (by decide) rfl dX10_sum_33 rfl ?_
        refine k_aload_n C 35 1 rfl rfl dX10_sum_34 rfl ?_
        refine k_dup C 36 rfl dX10_sum_35 rfl ?_
        refine k_get C 39 flX10_117 91 (by decide) (v := .int ((M2) 91 13)) (ce_91 g _) rfl dX10_sum_36 rfl ?_
        refine k_teq (y := nI r.2.1) h2.1 ?_
        refine k_iconst C 40 (v := 1) (by decide) dX10_sum_39 rfl ?_
        refine k_iadd C 41 dX10_sum_40 rfl ?_
        refine k_teq (nI_add r.2.1 1) ?_
        refine k_put C 44 flX10_117 plX10 91 (by decide) (ce_91 g _) (ce_91 g _) (Nat.le_of_ble_eq_true rfl) rfl rfl rfl dX10_sum_41 rfl ?_
        refine k_aload_n C 45 1 rfl rfl dX10_sum_44 rfl ?_
        have hlv : pLvl ((smf (M0 92) n) r.2.1) = nI (5 - (1 + 1)) := by rw [c17]; decide
        have hlt := lvl_in (smf_end (M0 92) n) (show 5 - (1 + 1) ≤ 5 by decide) hlv
        have hgo : okS n (psGo r.2) := ⟨hlt, hr.2⟩
        refine k_callVV C 48 (As := []) (st := []) 91 (by decide) (ce_91 g _) rfl rfl mwX10_158 vlX10_times (hO M0 _ n u (psGo r.2) hH hgo (mC_go h2)) mlX10_times (by omega) (by decide) rfl rfl (Nat.le_of_ble_eq_true rfl) dX10_sum_45 rfl (fun M3 h3 => ?_)
        have hmo := pJd_mono (sg := (smf (M0 92) n)) (pSg_mono (smf (M0 92) n) u od) 1 (psGo r.2)
        have hok3 := pJd_ok (smf_end (M0 92) n) (pSg_ok (smf_end (M0 92) n) hH.2.2.2 od) 1 (by decide) (psGo r.2) hgo
        cases hr3 : ((pJd (smf (M0 92) n) (pSg (smf (M0 92) n) u od) 1) (psGo r.2)).1 with
        | false =>
          have h4 := h3.2 hr3
          obtain ⟨z, hz, hz12⟩ := h4.2.1
          refine k_aload_n C 49 1 rfl rfl dX10_sum_48 rfl ?_
          refine k_iload_n C 50 0 rfl rfl dX10_sum_49 rfl ?_
          refine k_iconst C 51 (v := 0) (by decide) dX10_sum_50 rfl ?_
          refine k_callVU C 54 (As := [.int (smf (M0 92) n r.2.1), .int 0]) (st := []) 91 (by decide) (ce_91 g _) rfl rfl mwX10_135 vlX10_step (qX10_step l g M3 (z := z) hz hz12 (smf (M0 92) n r.2.1) 0) mlX10_step (by omega) (by decide) rfl rfl (Nat.le_of_ble_eq_true rfl) dX10_sum_51 rfl ?_
          refine k_goto C 4 dX10_sum_54 (by decide) ?_
          refine k_sub [(0, .ref (ga g 91))] [1] rfl ?_
          refine k_all (M' := (stM M3 z (smf (M0 92) n r.2.1) 0)) (lo' := [(0, .ref (ga g 91))]) (st' := []) (by rfl) (by rfl) rfl ?_
          exact ih (i + 1, (false, ((pJd (smf (M0 92) n) (pSg (smf (M0 92) n) u od) 1) (psGo r.2)).2), stM M3 z (smf (M0 92) n r.2.1) 0) (show ((i + 1) ≤ (false, ((pJd (smf (M0 92) n) (pSg (smf (M0 92) n) u od) 1) (psGo r.2)).2).2.1) ∧ (okS n (false, ((pJd (smf (M0 92) n) (pSg (smf (M0 92) n) u od) 1) (psGo r.2)).2).2) ∧ (mR M0 (stM M3 z (smf (M0 92) n r.2.1) 0) od (false, ((pJd (smf (M0 92) n) (pSg (smf (M0 92) n) u od) 1) (psGo r.2)).2)) ∧ ((if ((pJd (smf (M0 92) n) (pSg (smf (M0 92) n) u od) 1) s).1 = true then pLoopJ (smf (M0 92) n) (pJd (smf (M0 92) n) (pSg (smf (M0 92) n) u od) 1) (nI (5 - (1 + 1))) 60 ((pJd (smf (M0 92) n) (pSg (smf (M0 92) n) u od) 1) s).2 else (false, ((pJd (smf (M0 92) n) (pSg (smf (M0 92) n) u od) 1) s).2)) = if (false, ((pJd (smf (M0 92) n) (pSg (smf (M0 92) n) u od) 1) (psGo r.2)).2).1 = true then pLoopJ (smf (M0 92) n) (pJd (smf (M0 92) n) (pSg (smf (M0 92) n) u od) 1) (nI (5 - (1 + 1))) (60 - (i + 1)) (false, ((pJd (smf (M0 92) n) (pSg (smf (M0 92) n) u od) 1) (psGo r.2)).2).2 else (false, (false, ((pJd (smf (M0 92) n) (pSg (smf (M0 92) n) u od) 1) (psGo r.2)).2).2)) from by exact ⟨Nat.le_trans (Nat.succ_le_succ hi) hmo, hok3, mR_f (mB_add h4 hz hz12 (smf (M0 92) n r.2.1) 0), by rw [he, if_pos hrt, show 60 - i = (60 - (i + 1)) + 1 by omega]; simp only [pLoopJ]; rw [if_pos hlv, if_neg (by rw [hr3]; decide), if_neg (by decide)]⟩) (by show 61 - (i + 1) < 61 - i; omega)
        | true =>
          have h4 := h3.1 hr3
          refine k_aload_n C 49 1 rfl rfl dX10_sum_48 rfl ?_
          refine k_iload_n C 50 0 rfl rfl dX10_sum_49 rfl ?_
          refine k_iconst C 51 (v := 0) (by decide) dX10_sum_50 rfl ?_
          refine k_callVU C 54 (As := [.int (smf (M0 92) n r.2.1), .int 0]) (st := []) 91 (by decide) (ce_91 g _) rfl rfl mwX10_135 vlX10_step (qX10_step l g M3 (z := (((pJd (smf (M0 92) n) (pSg (smf (M0 92) n) u od) 1) (psGo r.2)).2).2.1) hok3.2 h4.2.1 (smf (M0 92) n r.2.1) 0) mlX10_step (by omega) (by decide) rfl rfl (Nat.le_of_ble_eq_true rfl) dX10_sum_51 rfl ?_
          refine k_goto C 4 dX10_sum_54 (by decide) ?_
          refine k_sub [(0, .ref (ga g 91))] [1] rfl ?_
          refine k_all (M' := (stM M3 ((((pJd (smf (M0 92) n) (pSg (smf (M0 92) n) u od) 1) (psGo r.2)).2).2.1) (smf (M0 92) n r.2.1) 0)) (lo' := [(0, .ref (ga g 91))]) (st' := []) (by rfl) (by rfl) rfl ?_
          exact ih (i + 1, (true, psAdd ((pJd (smf (M0 92) n) (pSg (smf (M0 92) n) u od) 1) (psGo r.2)).2 (-((smf (M0 92) n) r.2.1))), stM M3 ((((pJd (smf (M0 92) n) (pSg (smf (M0 92) n) u od) 1) (psGo r.2)).2).2.1) (smf (M0 92) n r.2.1) 0) (show ((i + 1) ≤ (true, psAdd ((pJd (smf (M0 92) n) (pSg (smf (M0 92) n) u od) 1) (psGo r.2)).2 (-((smf (M0 92) n) r.2.1))).2.1) ∧ (okS n (true, psAdd ((pJd (smf (M0 92) n) (pSg (smf (M0 92) n) u od) 1) (psGo r.2)).2 (-((smf (M0 92) n) r.2.1))).2) ∧ (mR M0 (stM M3 ((((pJd (smf (M0 92) n) (pSg (smf (M0 92) n) u od) 1) (psGo r.2)).2).2.1) (smf (M0 92) n r.2.1) 0) od (true, psAdd ((pJd (smf (M0 92) n) (pSg (smf (M0 92) n) u od) 1) (psGo r.2)).2 (-((smf (M0 92) n) r.2.1)))) ∧ ((if ((pJd (smf (M0 92) n) (pSg (smf (M0 92) n) u od) 1) s).1 = true then pLoopJ (smf (M0 92) n) (pJd (smf (M0 92) n) (pSg (smf (M0 92) n) u od) 1) (nI (5 - (1 + 1))) 60 ((pJd (smf (M0 92) n) (pSg (smf (M0 92) n) u od) 1) s).2 else (false, ((pJd (smf (M0 92) n) (pSg (smf (M0 92) n) u od) 1) s).2)) = if (true, psAdd ((pJd (smf (M0 92) n) (pSg (smf (M0 92) n) u od) 1) (psGo r.2)).2 (-((smf (M0 92) n) r.2.1))).1 = true then pLoopJ (smf (M0 92) n) (pJd (smf (M0 92) n) (pSg (smf (M0 92) n) u od) 1) (nI (5 - (1 + 1))) (60 - (i + 1)) (true, psAdd ((pJd (smf (M0 92) n) (pSg (smf (M0 92) n) u od) 1) (psGo r.2)).2 (-((smf (M0 92) n) r.2.1))).2 else (false, (true, psAdd ((pJd (smf (M0 92) n) (pSg (smf (M0 92) n) u od) 1) (psGo r.2)).2 (-((smf (M0 92) n) r.2.1))).2)) from by exact ⟨by show i + 1 ≤ (psAdd _ _).1; rw [psAdd_1]; exact Nat.le_trans (Nat.succ_le_succ hi) hmo, psAdd_ok _ hok3, mR_t (mC_add h4 (smf (M0 92) n r.2.1) 0 (-((smf (M0 92) n) r.2.1)) (sign_ok (by decide) hlv)), by rw [he, if_pos hrt, show 60 - i = (60 - (i + 1)) + 1 by omega]; simp only [pLoopJ]; rw [if_pos hlv, if_pos hr3, if_pos trivial]⟩) (by show 61 - (i + 1) < 61 - i; omega)
      · skip
        refine k_aload_n C 21 0 rfl rfl dX10_sum_20 rfl ?_
        refine k_callVE C 24 (As := []) (st := []) 91 (by decide) (ce_91 g _) rfl rfl mwX10_127 vlX10_look (qX10_look l g M0 M2 hH (p := r.2.1) h2.1 hr.1 h2.2.2.2.2.2) mlX10_look (by omega) (by decide) rfl rfl (Nat.le_of_ble_eq_true rfl) dX10_sum_21 rfl ?_
        refine k_bipush C 26 (v := 45) (by decide) dX10_sum_24 rfl ?_
        refine k_icmp_ne C 57 29 dX10_sum_26 (by decide) rfl (fun c26 => ?_) (fun d26 => ?_)
        · skip
          refine k_vret C dX10_sum_57 ?_
          show mR M0 M2 od (pJd (smf (M0 92) n) (pSg (smf (M0 92) n) u od) 2 s)
          have hf : (pJd (smf (M0 92) n) (pSg (smf (M0 92) n) u od) 2 s) = (if ((pJd (smf (M0 92) n) (pSg (smf (M0 92) n) u od) 1) s).1 = true then pLoopJ (smf (M0 92) n) (pJd (smf (M0 92) n) (pSg (smf (M0 92) n) u od) 1) (nI (5 - (1 + 1))) 60 ((pJd (smf (M0 92) n) (pSg (smf (M0 92) n) u od) 1) s).2 else (false, ((pJd (smf (M0 92) n) (pSg (smf (M0 92) n) u od) 1) s).2)) := by simp only [pJd]; rfl
          rw [hf, he]
          rw [if_pos hrt]
          have hx : pLoopJ (smf (M0 92) n) (pJd (smf (M0 92) n) (pSg (smf (M0 92) n) u od) 1) (nI (5 - (1 + 1))) (60 - i) r.2 = (true, r.2) := by
            cases hk : 60 - i with
            | zero => rfl
            | succ k => simp only [pLoopJ]; rw [if_neg (show ¬ pLvl _ = nI (5 - (1 + 1)) from lvl_3 d17 c26)]
          rw [hx]; exact mR_t h2
        · skip
          refine k_aload_n C 30 0 rfl rfl dX10_sum_29 rfl ?_
          refine k_callVE C 33 (As := []) (st := []) 91 (by decide) (ce_91 g _) rfl rfl mwX10_127 vlX10_look (qX10_look l g M0 M2 hH (p := r.2.1) h2.1 hr.1 h2.2.2.2.2.2) mlX10_look (by omega) (by decide) rfl rfl (Nat.le_of_ble_eq_true rfl) dX10_sum_30 rfl ?_
          refine k_istore_n C 34 [(1, .int (smf (M0 92) n r.2.1)), (0, .ref (ga g 91))] rfl (by decide) rfl dX10_sum_33 rfl ?_
          refine k_aload_n C 35 1 rfl rfl dX10_sum_34 rfl ?_
          refine k_dup C 36 rfl dX10_sum_35 rfl ?_
          refine k_get C 39 flX10_117 91 (by decide) (v := .int ((M2) 91 13)) (ce_91 g _) rfl dX10_sum_36 rfl ?_
          refine k_teq (y := nI r.2.1) h2.1 ?_
          refine k_iconst C 40 (v := 1) (by decide) dX10_sum_39 rfl ?_
          refine k_iadd C 41 dX10_sum_40 rfl ?_
          refine k_teq (nI_add r.2.1 1) ?_
          refine k_put C 44 flX10_117 plX10 91 (by decide) (ce_91 g _) (ce_91 g _) (Nat.le_of_ble_eq_true rfl) rfl rfl rfl dX10_sum_41 rfl ?_
          refine k_aload_n C 45 1 rfl rfl dX10_sum_44 rfl ?_
          have hlv : pLvl ((smf (M0 92) n) r.2.1) = nI (5 - (1 + 1)) := by rw [d26]; decide
          have hlt := lvl_in (smf_end (M0 92) n) (show 5 - (1 + 1) ≤ 5 by decide) hlv
          have hgo : okS n (psGo r.2) := ⟨hlt, hr.2⟩
          refine k_callVV C 48 (As := []) (st := []) 91 (by decide) (ce_91 g _) rfl rfl mwX10_158 vlX10_times (hO M0 _ n u (psGo r.2) hH hgo (mC_go h2)) mlX10_times (by omega) (by decide) rfl rfl (Nat.le_of_ble_eq_true rfl) dX10_sum_45 rfl (fun M3 h3 => ?_)
          have hmo := pJd_mono (sg := (smf (M0 92) n)) (pSg_mono (smf (M0 92) n) u od) 1 (psGo r.2)
          have hok3 := pJd_ok (smf_end (M0 92) n) (pSg_ok (smf_end (M0 92) n) hH.2.2.2 od) 1 (by decide) (psGo r.2) hgo
          cases hr3 : ((pJd (smf (M0 92) n) (pSg (smf (M0 92) n) u od) 1) (psGo r.2)).1 with
          | false =>
            have h4 := h3.2 hr3
            obtain ⟨z, hz, hz12⟩ := h4.2.1
            refine k_aload_n C 49 1 rfl rfl dX10_sum_48 rfl ?_
            refine k_iload_n C 50 0 rfl rfl dX10_sum_49 rfl ?_
            refine k_iconst C 51 (v := 0) (by decide) dX10_sum_50 rfl ?_
            refine k_callVU C 54 (As := [.int (smf (M0 92) n r.2.1), .int 0]) (st := []) 91 (by decide) (ce_91 g _) rfl rfl mwX10_135 vlX10_step (qX10_step l g M3 (z := z) hz hz12 (smf (M0 92) n r.2.1) 0) mlX10_step (by omega) (by decide) rfl rfl (Nat.le_of_ble_eq_true rfl) dX10_sum_51 rfl ?_
            refine k_goto C 4 dX10_sum_54 (by decide) ?_
            refine k_sub [(0, .ref (ga g 91))] [1] rfl ?_
            refine k_all (M' := (stM M3 z (smf (M0 92) n r.2.1) 0)) (lo' := [(0, .ref (ga g 91))]) (st' := []) (by rfl) (by rfl) rfl ?_
            exact ih (i + 1, (false, ((pJd (smf (M0 92) n) (pSg (smf (M0 92) n) u od) 1) (psGo r.2)).2), stM M3 z (smf (M0 92) n r.2.1) 0) (show ((i + 1) ≤ (false, ((pJd (smf (M0 92) n) (pSg (smf (M0 92) n) u od) 1) (psGo r.2)).2).2.1) ∧ (okS n (false, ((pJd (smf (M0 92) n) (pSg (smf (M0 92) n) u od) 1) (psGo r.2)).2).2) ∧ (mR M0 (stM M3 z (smf (M0 92) n r.2.1) 0) od (false, ((pJd (smf (M0 92) n) (pSg (smf (M0 92) n) u od) 1) (psGo r.2)).2)) ∧ ((if ((pJd (smf (M0 92) n) (pSg (smf (M0 92) n) u od) 1) s).1 = true then pLoopJ (smf (M0 92) n) (pJd (smf (M0 92) n) (pSg (smf (M0 92) n) u od) 1) (nI (5 - (1 + 1))) 60 ((pJd (smf (M0 92) n) (pSg (smf (M0 92) n) u od) 1) s).2 else (false, ((pJd (smf (M0 92) n) (pSg (smf (M0 92) n) u od) 1) s).2)) = if (false, ((pJd (smf (M0 92) n) (pSg (smf (M0 92) n) u od) 1) (psGo r.2)).2).1 = true then pLoopJ (smf (M0 92) n) (pJd (smf (M0 92) n) (pSg (smf (M0 92) n) u od) 1) (nI (5 - (1 + 1))) (60 - (i + 1)) (false, ((pJd (smf (M0 92) n) (pSg (smf (M0 92) n) u od) 1) (psGo r.2)).2).2 else (false, (false, ((pJd (smf (M0 92) n) (pSg (smf (M0 92) n) u od) 1) (psGo r.2)).2).2)) from by exact ⟨Nat.le_trans (Nat.succ_le_succ hi) hmo, hok3, mR_f (mB_add h4 hz hz12 (smf (M0 92) n r.2.1) 0), by rw [he, if_pos hrt, show 60 - i = (60 - (i + 1)) + 1 by omega]; simp only [pLoopJ]; rw [if_pos hlv, if_neg (by rw [hr3]; decide), if_neg (by decide)]⟩) (by show 61 - (i + 1) < 61 - i; omega)
          | true =>
            have h4 := h3.1 hr3
            refine k_aload_n C 49 1 rfl rfl dX10_sum_48 rfl ?_
            refine k_iload_n C 50 0 rfl rfl dX10_sum_49 rfl ?_
            refine k_iconst C 51 (v := 0) (by decide) dX10_sum_50 rfl ?_
            refine k_callVU C 54 (As := [.int (smf (M0 92) n r.2.1), .int 0]) (st := []) 91 (by decide) (ce_91 g _) rfl rfl mwX10_135 vlX10_step (qX10_step l g M3 (z := (((pJd (smf (M0 92) n) (pSg (smf (M0 92) n) u od) 1) (psGo r.2)).2).2.1) hok3.2 h4.2.1 (smf (M0 92) n r.2.1) 0) mlX10_step (by omega) (by decide) rfl rfl (Nat.le_of_ble_eq_true rfl) dX10_sum_51 rfl ?_
            refine k_goto C 4 dX10_sum_54 (by decide) ?_
            refine k_sub [(0, .ref (ga g 91))] [1] rfl ?_
            refine k_all (M' := (stM M3 ((((pJd (smf (M0 92) n) (pSg (smf (M0 92) n) u od) 1) (psGo r.2)).2).2.1) (smf (M0 92) n r.2.1) 0)) (lo' := [(0, .ref (ga g 91))]) (st' := []) (by rfl) (by rfl) rfl ?_
            exact ih (i + 1, (true, psAdd ((pJd (smf (M0 92) n) (pSg (smf (M0 92) n) u od) 1) (psGo r.2)).2 (-((smf (M0 92) n) r.2.1))), stM M3 ((((pJd (smf (M0 92) n) (pSg (smf (M0 92) n) u od) 1) (psGo r.2)).2).2.1) (smf (M0 92) n r.2.1) 0) (show ((i + 1) ≤ (true, psAdd ((pJd (smf (M0 92) n) (pSg (smf (M0 92) n) u od) 1) (psGo r.2)).2 (-((smf (M0 92) n) r.2.1))).2.1) ∧ (okS n (true, psAdd ((pJd (smf (M0 92) n) (pSg (smf (M0 92) n) u od) 1) (psGo r.2)).2 (-((smf (M0 92) n) r.2.1))).2) ∧ (mR M0 (stM M3 ((((pJd (smf (M0 92) n) (pSg (smf (M0 92) n) u od) 1) (psGo r.2)).2).2.1) (smf (M0 92) n r.2.1) 0) od (true, psAdd ((pJd (smf (M0 92) n) (pSg (smf (M0 92) n) u od) 1) (psGo r.2)).2 (-((smf (M0 92) n) r.2.1)))) ∧ ((if ((pJd (smf (M0 92) n) (pSg (smf (M0 92) n) u od) 1) s).1 = true then pLoopJ (smf (M0 92) n) (pJd (smf (M0 92) n) (pSg (smf (M0 92) n) u od) 1) (nI (5 - (1 + 1))) 60 ((pJd (smf (M0 92) n) (pSg (smf (M0 92) n) u od) 1) s).2 else (false, ((pJd (smf (M0 92) n) (pSg (smf (M0 92) n) u od) 1) s).2)) = if (true, psAdd ((pJd (smf (M0 92) n) (pSg (smf (M0 92) n) u od) 1) (psGo r.2)).2 (-((smf (M0 92) n) r.2.1))).1 = true then pLoopJ (smf (M0 92) n) (pJd (smf (M0 92) n) (pSg (smf (M0 92) n) u od) 1) (nI (5 - (1 + 1))) (60 - (i + 1)) (true, psAdd ((pJd (smf (M0 92) n) (pSg (smf (M0 92) n) u od) 1) (psGo r.2)).2 (-((smf (M0 92) n) r.2.1))).2 else (false, (true, psAdd ((pJd (smf (M0 92) n) (pSg (smf (M0 92) n) u od) 1) (psGo r.2)).2 (-((smf (M0 92) n) r.2.1))).2)) from by exact ⟨by show i + 1 ≤ (psAdd _ _).1; rw [psAdd_1]; exact Nat.le_trans (Nat.succ_le_succ hi) hmo, psAdd_ok _ hok3, mR_t (mC_add h4 (smf (M0 92) n r.2.1) 0 (-((smf (M0 92) n) r.2.1)) (sign_ok (by decide) hlv)), by rw [he, if_pos hrt, show 60 - i = (60 - (i + 1)) + 1 by omega]; simp only [pLoopJ]; rw [if_pos hlv, if_pos hr3, if_pos trivial]⟩) (by show 61 - (i + 1) < 61 - i; omega)
set_option maxHeartbeats 4000000 in
set_option maxRecDepth 20000 in
theorem qX10_compares (l : Launch) (g : GT) (od : Nat) (h5 : od ≤ 5) (hO : ∀ (M0 M : Mem) (n u : Nat) (s : PS), mH M0 n u → okS n s → mC M0 M od s → CtrV l g yX10_sum cX10_sum 2 (8 * od + 5) [.ref (ga g 91)] M (fun M1 => mR M0 M1 od (pJd (smf (M0 92) n) (pSg (smf (M0 92) n) u od) 2 s))) (M0 M : Mem) {n u : Nat} (s : PS) (hH : mH M0 n u) (hs : okS n s) (hC : mC M0 M od s) : CtrV l g yX10_compares cX10_compares 2 (8 * od + 6) [.ref (ga g 91)] M (fun M1 => mR M0 M1 od (pJd (smf (M0 92) n) (pSg (smf (M0 92) n) u od) 3 s)) := by
  refine ctrV_of (by decide +kernel) (Nat.le_of_ble_eq_true rfl) ?_
  intro pP eE RR sS mI aG bB mE cD C
  refine k_lo (lo' := [(0, .ref (ga g 91))]) rfl ?_
  have hn60 := hH.2.1
  have hp := hs.1
  have hz := hs.2
  have hok1 := pJd_ok (smf_end (M0 92) n) (pSg_ok (smf_end (M0 92) n) hH.2.2.2 od) 2 (by decide) s hs
  have hpo1 := hok1.1
  refine k_aload_n C 1 0 rfl rfl dX10_compares_0 rfl ?_
  refine k_callVV C 4 (As := []) (st := []) 91 (by decide) (ce_91 g _) rfl rfl mwX10_161 vlX10_sum (hO M0 M n u s hH hs hC) mlX10_sum (by omega) (by decide) rfl rfl (Nat.le_of_ble_eq_true rfl) dX10_compares_1 rfl (fun M1 h1 => ?_)
  cases hr1 : ((pJd (smf (M0 92) n) (pSg (smf (M0 92) n) u od) 2) s).1 with
  | false =>
    have h2 := h1.2 hr1
    refine k_aload_n C 5 0 rfl rfl dX10_compares_4 rfl ?_
    refine k_callVE C 8 (As := []) (st := []) 91 (by decide) (ce_91 g _) rfl rfl mwX10_127 vlX10_look (qX10_look l g M0 M1 hH (p := (((pJd (smf (M0 92) n) (pSg (smf (M0 92) n) u od) 2) s).2).1) h2.1 hok1.1 h2.2.2.2.2) mlX10_look (by omega) (by decide) rfl rfl (Nat.le_of_ble_eq_true rfl) dX10_compares_5 rfl ?_
    refine k_istore_n C 9 [(1, .int (smf (M0 92) n ((((pJd (smf (M0 92) n) (pSg (smf (M0 92) n) u od) 2) s).2).1))), (0, .ref (ga g 91))] rfl (by decide) rfl dX10_compares_8 rfl ?_
    refine k_aload_n C 10 1 rfl rfl dX10_compares_9 rfl ?_
    refine k_get C 13 flX10_131 91 (by decide) (v := .int ((M1) 91 15)) (ce_91 g _) rfl dX10_compares_10 rfl ?_
    refine k_teq (y := 1) h2.2.2.2.1 ?_
    refine k_if_ne C 54 16 dX10_compares_13 (by decide) rfl (fun c13 => ?_) (fun d13 => ?_)
    · skip
      refine k_vret C dX10_compares_54 ?_
      have hf : (pJd (smf (M0 92) n) (pSg (smf (M0 92) n) u od) 3 s) = (if ((pJd (smf (M0 92) n) (pSg (smf (M0 92) n) u od) 2) s).1 = true then pLoopJ (smf (M0 92) n) (pJd (smf (M0 92) n) (pSg (smf (M0 92) n) u od) 2) (nI (5 - (2 + 1))) 1 ((pJd (smf (M0 92) n) (pSg (smf (M0 92) n) u od) 2) s).2 else (false, ((pJd (smf (M0 92) n) (pSg (smf (M0 92) n) u od) 2) s).2)) := by simp only [pJd]; rfl
      rw [hf]
      rw [if_neg (by rw [hr1]; decide)]; exact mR_f h2
    · skip
      exact absurd d13 (by decide)
  | true =>
    have h2 := h1.1 hr1
    refine k_aload_n C 5 0 rfl rfl dX10_compares_4 rfl ?_
    refine k_callVE C 8 (As := []) (st := []) 91 (by decide) (ce_91 g _) rfl rfl mwX10_127 vlX10_look (qX10_look l g M0 M1 hH (p := (((pJd (smf (M0 92) n) (pSg (smf (M0 92) n) u od) 2) s).2).1) h2.1 hok1.1 h2.2.2.2.2.2) mlX10_look (by omega) (by decide) rfl rfl (Nat.le_of_ble_eq_true rfl) dX10_compares_5 rfl ?_
    refine k_istore_n C 9 [(1, .int (smf (M0 92) n ((((pJd (smf (M0 92) n) (pSg (smf (M0 92) n) u od) 2) s).2).1))), (0, .ref (ga g 91))] rfl (by decide) rfl dX10_compares_8 rfl ?_
    refine k_aload_n C 10 1 rfl rfl dX10_compares_9 rfl ?_
    refine k_get C 13 flX10_131 91 (by decide) (v := .int ((M1) 91 15)) (ce_91 g _) rfl dX10_compares_10 rfl ?_
    refine k_teq (y := 0) h2.2.2.2.2.1 ?_
    refine k_if_ne C 54 16 dX10_compares_13 (by decide) rfl (fun c13 => ?_) (fun d13 => ?_)
    · skip
      exact absurd c13 (by decide)
    · skip
      refine k_iload_n C 17 0 rfl rfl dX10_compares_16 rfl ?_
      refine k_bipush C 19 (v := 60) (by decide) dX10_compares_17 rfl ?_
      refine k_icmp_eq C 34 22 dX10_compares_19 (by decide) rfl (fun c19 => ?_) (fun d19 => ?_)
      · skip
        refine k_aload_n C 35 1 rfl rfl dX10_compares_34 rfl ?_
        refine k_dup C 36 rfl dX10_compares_35 rfl ?_
        refine k_get C 39 flX10_117 91 (by decide) (v := .int ((M1) 91 13)) (ce_91 g _) rfl dX10_compares_36 rfl ?_
        refine k_teq (y := nI (((pJd (smf (M0 92) n) (pSg (smf (M0 92) n) u od) 2) s).2.1)) h2.1 ?_
        refine k_iconst C 40 (v := 1) (by decide) dX10_compares_39 rfl ?_
        refine k_iadd C 41 dX10_compares_40 rfl ?_
        refine k_teq (nI_add (((pJd (smf (M0 92) n) (pSg (smf (M0 92) n) u od) 2) s).2.1) 1) ?_
        refine k_put C 44 flX10_117 plX10 91 (by decide) (ce_91 g _) (ce_91 g _) (Nat.le_of_ble_eq_true rfl) rfl rfl rfl dX10_compares_41 rfl ?_
        refine k_aload_n C 45 1 rfl rfl dX10_compares_44 rfl ?_
        have hlv : pLvl ((smf (M0 92) n) ((pJd (smf (M0 92) n) (pSg (smf (M0 92) n) u od) 2) s).2.1) = nI (5 - (2 + 1)) := by rw [c19]; decide
        have hlt := lvl_in (smf_end (M0 92) n) (show 5 - (2 + 1) ≤ 5 by decide) hlv
        have hgo : okS n (psGo ((pJd (smf (M0 92) n) (pSg (smf (M0 92) n) u od) 2) s).2) := ⟨hlt, hok1.2⟩
        refine k_callVV C 48 (As := []) (st := []) 91 (by decide) (ce_91 g _) rfl rfl mwX10_161 vlX10_sum (hO M0 _ n u (psGo ((pJd (smf (M0 92) n) (pSg (smf (M0 92) n) u od) 2) s).2) hH hgo (mC_go h2)) mlX10_sum (by omega) (by decide) rfl rfl (Nat.le_of_ble_eq_true rfl) dX10_compares_45 rfl (fun M3 h3 => ?_)
        have hok3 := pJd_ok (smf_end (M0 92) n) (pSg_ok (smf_end (M0 92) n) hH.2.2.2 od) 2 (by decide) (psGo ((pJd (smf (M0 92) n) (pSg (smf (M0 92) n) u od) 2) s).2) hgo
        cases hr3 : ((pJd (smf (M0 92) n) (pSg (smf (M0 92) n) u od) 2) (psGo ((pJd (smf (M0 92) n) (pSg (smf (M0 92) n) u od) 2) s).2)).1 with
        | false =>
          have h4 := h3.2 hr3
          obtain ⟨z, hz, hz12⟩ := h4.2.1
          refine k_aload_n C 49 1 rfl rfl dX10_compares_48 rfl ?_
          refine k_iload_n C 50 0 rfl rfl dX10_compares_49 rfl ?_
          refine k_iconst C 51 (v := 0) (by decide) dX10_compares_50 rfl ?_
          refine k_callVU C 54 (As := [.int (smf (M0 92) n ((((pJd (smf (M0 92) n) (pSg (smf (M0 92) n) u od) 2) s).2).1)), .int 0]) (st := []) 91 (by decide) (ce_91 g _) rfl rfl mwX10_135 vlX10_step (qX10_step l g M3 (z := z) hz hz12 (smf (M0 92) n ((((pJd (smf (M0 92) n) (pSg (smf (M0 92) n) u od) 2) s).2).1)) 0) mlX10_step (by omega) (by decide) rfl rfl (Nat.le_of_ble_eq_true rfl) dX10_compares_51 rfl ?_
          refine k_vret C dX10_compares_54 ?_
          have hf : (pJd (smf (M0 92) n) (pSg (smf (M0 92) n) u od) 3 s) = (if ((pJd (smf (M0 92) n) (pSg (smf (M0 92) n) u od) 2) s).1 = true then pLoopJ (smf (M0 92) n) (pJd (smf (M0 92) n) (pSg (smf (M0 92) n) u od) 2) (nI (5 - (2 + 1))) 1 ((pJd (smf (M0 92) n) (pSg (smf (M0 92) n) u od) 2) s).2 else (false, ((pJd (smf (M0 92) n) (pSg (smf (M0 92) n) u od) 2) s).2)) := by simp only [pJd]; rfl
          rw [hf]
          rw [if_pos hr1]
          simp only [pLoopJ]; rw [if_pos hlv, if_neg (by rw [hr3]; decide)]; exact mR_f (mB_add h4 hz hz12 (smf (M0 92) n ((((pJd (smf (M0 92) n) (pSg (smf (M0 92) n) u od) 2) s).2).1)) 0)
        | true =>
          have h4 := h3.1 hr3
          refine k_aload_n C 49 1 rfl rfl dX10_compares_48 rfl ?_
          refine k_iload_n C 50 0 rfl rfl dX10_compares_49 rfl ?_
          refine k_iconst C 51 (v := 0) (by decide) dX10_compares_50 rfl ?_
          refine k_callVU C 54 (As := [.int (smf (M0 92) n ((((pJd (smf (M0 92) n) (pSg (smf (M0 92) n) u od) 2) s).2).1)), .int 0]) (st := []) 91 (by decide) (ce_91 g _) rfl rfl mwX10_135 vlX10_step (qX10_step l g M3 (z := (((pJd (smf (M0 92) n) (pSg (smf (M0 92) n) u od) 2) (psGo ((pJd (smf (M0 92) n) (pSg (smf (M0 92) n) u od) 2) s).2)).2).2.1) hok3.2 h4.2.1 (smf (M0 92) n ((((pJd (smf (M0 92) n) (pSg (smf (M0 92) n) u od) 2) s).2).1)) 0) mlX10_step (by omega) (by decide) rfl rfl (Nat.le_of_ble_eq_true rfl) dX10_compares_51 rfl ?_
          refine k_vret C dX10_compares_54 ?_
          have hf : (pJd (smf (M0 92) n) (pSg (smf (M0 92) n) u od) 3 s) = (if ((pJd (smf (M0 92) n) (pSg (smf (M0 92) n) u od) 2) s).1 = true then pLoopJ (smf (M0 92) n) (pJd (smf (M0 92) n) (pSg (smf (M0 92) n) u od) 2) (nI (5 - (2 + 1))) 1 ((pJd (smf (M0 92) n) (pSg (smf (M0 92) n) u od) 2) s).2 else (false, ((pJd (smf (M0 92) n) (pSg (smf (M0 92) n) u od) 2) s).2)) := by simp only [pJd]; rfl
          rw [hf]
          rw [if_pos hr1]
          simp only [pLoopJ]; rw [if_pos hlv, if_pos hr3]; exact mR_t (mC_add h4 (smf (M0 92) n ((((pJd (smf (M0 92) n) (pSg (smf (M0 92) n) u od) 2) s).2).1)) 0 (-((smf (M0 92) n) ((pJd (smf (M0 92) n) (pSg (smf (M0 92) n) u od) 2) s).2.1)) (sign_ok (by decide) hlv))
      · skip
        refine k_iload_n C 23 0 rfl rfl dX10_compares_22 rfl ?_
        refine k_bipush C 25 (v := 61) (by decide) dX10_compares_23 rfl ?_
        refine k_icmp_eq C 34 28 dX10_compares_25 (by decide) rfl (fun c25 => ?_) (fun d25 => ?_)
        · skip
          refine k_aload_n C 35 1 rfl rfl dX10_compares_34 rfl ?_
          refine k_dup C 36 rfl dX10_compares_35 rfl ?_
          refine k_get C 39 flX10_117 91 (by decide) (v := .int ((M1) 91 13)) (ce_91 g _) rfl dX10_compares_36 rfl ?_
          refine k_teq (y := nI (((pJd (smf (M0 92) n) (pSg (smf (M0 92) n) u od) 2) s).2.1)) h2.1 ?_
          refine k_iconst C 40 (v := 1) (by decide) dX10_compares_39 rfl ?_
          refine k_iadd C 41 dX10_compares_40 rfl ?_
          refine k_teq (nI_add (((pJd (smf (M0 92) n) (pSg (smf (M0 92) n) u od) 2) s).2.1) 1) ?_
          refine k_put C 44 flX10_117 plX10 91 (by decide) (ce_91 g _) (ce_91 g _) (Nat.le_of_ble_eq_true rfl) rfl rfl rfl dX10_compares_41 rfl ?_
          refine k_aload_n C 45 1 rfl rfl dX10_compares_44 rfl ?_
          have hlv : pLvl ((smf (M0 92) n) ((pJd (smf (M0 92) n) (pSg (smf (M0 92) n) u od) 2) s).2.1) = nI (5 - (2 + 1)) := by rw [c25]; decide
          have hlt := lvl_in (smf_end (M0 92) n) (show 5 - (2 + 1) ≤ 5 by decide) hlv
          have hgo : okS n (psGo ((pJd (smf (M0 92) n) (pSg (smf (M0 92) n) u od) 2) s).2) := ⟨hlt, hok1.2⟩
          refine k_callVV C 48 (As := []) (st := []) 91 (by decide) (ce_91 g _) rfl rfl mwX10_161 vlX10_sum (hO M0 _ n u (psGo ((pJd (smf (M0 92) n) (pSg (smf (M0 92) n) u od) 2) s).2) hH hgo (mC_go h2)) mlX10_sum (by omega) (by decide) rfl rfl (Nat.le_of_ble_eq_true rfl) dX10_compares_45 rfl (fun M3 h3 => ?_)
          have hok3 := pJd_ok (smf_end (M0 92) n) (pSg_ok (smf_end (M0 92) n) hH.2.2.2 od) 2 (by decide) (psGo ((pJd (smf (M0 92) n) (pSg (smf (M0 92) n) u od) 2) s).2) hgo
          cases hr3 : ((pJd (smf (M0 92) n) (pSg (smf (M0 92) n) u od) 2) (psGo ((pJd (smf (M0 92) n) (pSg (smf (M0 92) n) u od) 2) s).2)).1 with
          | false =>
            have h4 := h3.2 hr3
            obtain ⟨z, hz, hz12⟩ := h4.2.1
            refine k_aload_n C 49 1 rfl rfl dX10_compares_48 rfl ?_
            refine k_iload_n C 50 0 rfl rfl dX10_compares_49 rfl ?_
            refine k_iconst C 51 (v := 0) (by decide) dX10_compares_50 rfl ?_
            refine k_callVU C 54 (As := [.int (smf (M0 92) n ((((pJd (smf (M0 92) n) (pSg (smf (M0 92) n) u od) 2) s).2).1)), .int 0]) (st := []) 91 (by decide) (ce_91 g _) rfl rfl mwX10_135 vlX10_step (qX10_step l g M3 (z := z) hz hz12 (smf (M0 92) n ((((pJd (smf (M0 92) n) (pSg (smf (M0 92) n) u od) 2) s).2).1)) 0) mlX10_step (by omega) (by decide) rfl rfl (Nat.le_of_ble_eq_true rfl) dX10_compares_51 rfl ?_
            refine k_vret C dX10_compares_54 ?_
            have hf : (pJd (smf (M0 92) n) (pSg (smf (M0 92) n) u od) 3 s) = (if ((pJd (smf (M0 92) n) (pSg (smf (M0 92) n) u od) 2) s).1 = true then pLoopJ (smf (M0 92) n) (pJd (smf (M0 92) n) (pSg (smf (M0 92) n) u od) 2) (nI (5 - (2 + 1))) 1 ((pJd (smf (M0 92) n) (pSg (smf (M0 92) n) u od) 2) s).2 else (false, ((pJd (smf (M0 92) n) (pSg (smf (M0 92) n) u od) 2) s).2)) := by simp only [pJd]; rfl
            rw [hf]
            rw [if_pos hr1]
            simp only [pLoopJ]; rw [if_pos hlv, if_neg (by rw [hr3]; decide)]; exact mR_f (mB_add h4 hz hz12 (smf (M0 92) n ((((pJd (smf (M0 92) n) (pSg (smf (M0 92) n) u od) 2) s).2).1)) 0)
          | true =>
            have h4 := h3.1 hr3
            refine k_aload_n C 49 1 rfl rfl dX10_compares_48 rfl ?_
            refine k_iload_n C 50 0 rfl rfl dX10_compares_49 rfl ?_
            refine k_iconst C 51 (v := 0) (by decide) dX10_compares_50 rfl ?_
            refine k_callVU C 54 (As := [.int (smf (M0 92) n ((((pJd (smf (M0 92) n) (pSg (smf (M0 92) n) u od) 2) s).2).1)), .int 0]) (st := []) 91 (by decide) (ce_91 g _) rfl rfl mwX10_135 vlX10_step (qX10_step l g M3 (z := (((pJd (smf (M0 92) n) (pSg (smf (M0 92) n) u od) 2) (psGo ((pJd (smf (M0 92) n) (pSg (smf (M0 92) n) u od) 2) s).2)).2).2.1) hok3.2 h4.2.1 (smf (M0 92) n ((((pJd (smf (M0 92) n) (pSg (smf (M0 92) n) u od) 2) s).2).1)) 0) mlX10_step (by omega) (by decide) rfl rfl (Nat.le_of_ble_eq_true rfl) dX10_compares_51 rfl ?_
            refine k_vret C dX10_compares_54 ?_
            have hf : (pJd (smf (M0 92) n) (pSg (smf (M0 92) n) u od) 3 s) = (if ((pJd (smf (M0 92) n) (pSg (smf (M0 92) n) u od) 2) s).1 = true then pLoopJ (smf (M0 92) n) (pJd (smf (M0 92) n) (pSg (smf (M0 92) n) u od) 2) (nI (5 - (2 + 1))) 1 ((pJd (smf (M0 92) n) (pSg (smf (M0 92) n) u od) 2) s).2 else (false, ((pJd (smf (M0 92) n) (pSg (smf (M0 92) n) u od) 2) s).2)) := by simp only [pJd]; rfl
            rw [hf]
            rw [if_pos hr1]
            simp only [pLoopJ]; rw [if_pos hlv, if_pos hr3]; exact mR_t (mC_add h4 (smf (M0 92) n ((((pJd (smf (M0 92) n) (pSg (smf (M0 92) n) u od) 2) s).2).1)) 0 (-((smf (M0 92) n) ((pJd (smf (M0 92) n) (pSg (smf (M0 92) n) u od) 2) s).2.1)) (sign_ok (by decide) hlv))
        · skip
          refine k_iload_n C 29 0 rfl rfl dX10_compares_28 rfl ?_
          refine k_bipush C 31 (v := 62) (by decide) dX10_compares_29 rfl ?_
          refine k_icmp_ne C 54 34 dX10_compares_31 (by decide) rfl (fun c31 => ?_) (fun d31 => ?_)
          · skip
            refine k_vret C dX10_compares_54 ?_
            have hf : (pJd (smf (M0 92) n) (pSg (smf (M0 92) n) u od) 3 s) = (if ((pJd (smf (M0 92) n) (pSg (smf (M0 92) n) u od) 2) s).1 = true then pLoopJ (smf (M0 92) n) (pJd (smf (M0 92) n) (pSg (smf (M0 92) n) u od) 2) (nI (5 - (2 + 1))) 1 ((pJd (smf (M0 92) n) (pSg (smf (M0 92) n) u od) 2) s).2 else (false, ((pJd (smf (M0 92) n) (pSg (smf (M0 92) n) u od) 2) s).2)) := by simp only [pJd]; rfl
            rw [hf]
            rw [if_pos hr1]
            simp only [pLoopJ]; rw [if_neg (show ¬ pLvl _ = nI (5 - (2 + 1)) from lvl_2 d19 d25 c31)]; exact mR_t h2
          · skip
            refine k_aload_n C 35 1 rfl rfl dX10_compares_34 rfl ?_
            refine k_dup C 36 rfl dX10_compares_35 rfl ?_
            refine k_get C 39 flX10_117 91 (by decide) (v := .int ((M1) 91 13)) (ce_91 g _) rfl dX10_compares_36 rfl ?_
            refine k_teq (y := nI (((pJd (smf (M0 92) n) (pSg (smf (M0 92) n) u od) 2) s).2.1)) h2.1 ?_
            refine k_iconst C 40 (v := 1) (by decide) dX10_compares_39 rfl ?_
            refine k_iadd C 41 dX10_compares_40 rfl ?_
            refine k_teq (nI_add (((pJd (smf (M0 92) n) (pSg (smf (M0 92) n) u od) 2) s).2.1) 1) ?_
            refine k_put C 44 flX10_117 plX10 91 (by decide) (ce_91 g _) (ce_91 g _) (Nat.le_of_ble_eq_true rfl) rfl rfl rfl dX10_compares_41 rfl ?_
            refine k_aload_n C 45 1 rfl rfl dX10_compares_44 rfl ?_
            have hlv : pLvl ((smf (M0 92) n) ((pJd (smf (M0 92) n) (pSg (smf (M0 92) n) u od) 2) s).2.1) = nI (5 - (2 + 1)) := by rw [d31]; decide
            have hlt := lvl_in (smf_end (M0 92) n) (show 5 - (2 + 1) ≤ 5 by decide) hlv
            have hgo : okS n (psGo ((pJd (smf (M0 92) n) (pSg (smf (M0 92) n) u od) 2) s).2) := ⟨hlt, hok1.2⟩
            refine k_callVV C 48 (As := []) (st := []) 91 (by decide) (ce_91 g _) rfl rfl mwX10_161 vlX10_sum (hO M0 _ n u (psGo ((pJd (smf (M0 92) n) (pSg (smf (M0 92) n) u od) 2) s).2) hH hgo (mC_go h2)) mlX10_sum (by omega) (by decide) rfl rfl (Nat.le_of_ble_eq_true rfl) dX10_compares_45 rfl (fun M3 h3 => ?_)
            have hok3 := pJd_ok (smf_end (M0 92) n) (pSg_ok (smf_end (M0 92) n) hH.2.2.2 od) 2 (by decide) (psGo ((pJd (smf (M0 92) n) (pSg (smf (M0 92) n) u od) 2) s).2) hgo
            cases hr3 : ((pJd (smf (M0 92) n) (pSg (smf (M0 92) n) u od) 2) (psGo ((pJd (smf (M0 92) n) (pSg (smf (M0 92) n) u od) 2) s).2)).1 with
            | false =>
              have h4 := h3.2 hr3
              obtain ⟨z, hz, hz12⟩ := h4.2.1
              refine k_aload_n C 49 1 rfl rfl dX10_compares_48 rfl ?_
              refine k_iload_n C 50 0 rfl rfl dX10_compares_49 rfl ?_
              refine k_iconst C 51 (v := 0) (by decide) dX10_compares_50 rfl ?_
              refine k_callVU C 54 (As := [.int (smf (M0 92) n ((((pJd (smf (M0 92) n) (pSg (smf (M0 92) n) u od) 2) s).2).1)), .int 0]) (st := []) 91 (by decide) (ce_91 g _) rfl rfl mwX10_135 vlX10_step (qX10_step l g M3 (z := z) hz hz12 (smf (M0 92) n ((((pJd (smf (M0 92) n) (pSg (smf (M0 92) n) u od) 2) s).2).1)) 0) mlX10_step (by omega) (by decide) rfl rfl (Nat.le_of_ble_eq_true rfl) dX10_compares_51 rfl ?_
              refine k_vret C dX10_compares_54 ?_
              have hf : (pJd (smf (M0 92) n) (pSg (smf (M0 92) n) u od) 3 s) = (if ((pJd (smf (M0 92) n) (pSg (smf (M0 92) n) u od) 2) s).1 = true then pLoopJ (smf (M0 92) n) (pJd (smf (M0 92) n) (pSg (smf (M0 92) n) u od) 2) (nI (5 - (2 + 1))) 1 ((pJd (smf (M0 92) n) (pSg (smf (M0 92) n) u od) 2) s).2 else (false, ((pJd (smf (M0 92) n) (pSg (smf (M0 92) n) u od) 2) s).2)) := by simp only [pJd]; rfl
              rw [hf]
              rw [if_pos hr1]
              simp only [pLoopJ]; rw [if_pos hlv, if_neg (by rw [hr3]; decide)]; exact mR_f (mB_add h4 hz hz12 (smf (M0 92) n ((((pJd (smf (M0 92) n) (pSg (smf (M0 92) n) u od) 2) s).2).1)) 0)
            | true =>
              have h4 := h3.1 hr3
              refine k_aload_n C 49 1 rfl rfl dX10_compares_48 rfl ?_
              refine k_iload_n C 50 0 rfl rfl dX10_compares_49 rfl ?_
              refine k_iconst C 51 (v := 0) (by decide) dX10_compares_50 rfl ?_
              refine k_callVU C 54 (As := [.int (smf (M0 92) n ((((pJd (smf (M0 92) n) (pSg (smf (M0 92) n) u od) 2) s).2).1)), .int 0]) (st := []) 91 (by decide) (ce_91 g _) rfl rfl mwX10_135 vlX10_step (qX10_step l g M3 (z := (((pJd (smf (M0 92) n) (pSg (smf (M0 92) n) u od) 2) (psGo ((pJd (smf (M0 92) n) (pSg (smf (M0 92) n) u od) 2) s).2)).2).2.1) hok3.2 h4.2.1 (smf (M0 92) n ((((pJd (smf (M0 92) n) (pSg (smf (M0 92) n) u od) 2) s).2).1)) 0) mlX10_step (by omega) (by decide) rfl rfl (Nat.le_of_ble_eq_true rfl) dX10_compares_51 rfl ?_
              refine k_vret C dX10_compares_54 ?_
              have hf : (pJd (smf (M0 92) n) (pSg (smf (M0 92) n) u od) 3 s) = (if ((pJd (smf (M0 92) n) (pSg (smf (M0 92) n) u od) 2) s).1 = true then pLoopJ (smf (M0 92) n) (pJd (smf (M0 92) n) (pSg (smf (M0 92) n) u od) 2) (nI (5 - (2 + 1))) 1 ((pJd (smf (M0 92) n) (pSg (smf (M0 92) n) u od) 2) s).2 else (false, ((pJd (smf (M0 92) n) (pSg (smf (M0 92) n) u od) 2) s).2)) := by simp only [pJd]; rfl
              rw [hf]
              rw [if_pos hr1]
              simp only [pLoopJ]; rw [if_pos hlv, if_pos hr3]; exact mR_t (mC_add h4 (smf (M0 92) n ((((pJd (smf (M0 92) n) (pSg (smf (M0 92) n) u od) 2) s).2).1)) 0 (-((smf (M0 92) n) ((pJd (smf (M0 92) n) (pSg (smf (M0 92) n) u od) 2) s).2.1)) (sign_ok (by decide) hlv))
set_option maxHeartbeats 4000000 in
set_option maxRecDepth 20000 in
theorem qX10_all (l : Launch) (g : GT) (od : Nat) (h5 : od ≤ 5) (hO : ∀ (M0 M : Mem) (n u : Nat) (s : PS), mH M0 n u → okS n s → mC M0 M od s → CtrV l g yX10_compares cX10_compares 2 (8 * od + 6) [.ref (ga g 91)] M (fun M1 => mR M0 M1 od (pJd (smf (M0 92) n) (pSg (smf (M0 92) n) u od) 3 s))) (M0 M : Mem) {n u : Nat} (s : PS) (hH : mH M0 n u) (hs : okS n s) (hC : mC M0 M od s) : CtrV l g yX10_all cX10_all 1 (8 * od + 7) [.ref (ga g 91)] M (fun M1 => mR M0 M1 od (pJd (smf (M0 92) n) (pSg (smf (M0 92) n) u od) 4 s)) := by
  refine ctrV_of (by decide +kernel) (Nat.le_of_ble_eq_true rfl) ?_
  intro pP eE RR sS mI aG bB mE cD C
  refine k_lo (lo' := [(0, .ref (ga g 91))]) rfl ?_
  have hn60 := hH.2.1
  have hp := hs.1
  have hz := hs.2
  have hok1 := pJd_ok (smf_end (M0 92) n) (pSg_ok (smf_end (M0 92) n) hH.2.2.2 od) 3 (by decide) s hs
  refine k_aload_n C 1 0 rfl rfl dX10_all_0 rfl ?_
  refine k_callVV C 4 (As := []) (st := []) 91 (by decide) (ce_91 g _) rfl rfl mwX10_164 vlX10_compares (hO M0 M n u s hH hs hC) mlX10_compares (by omega) (by decide) rfl rfl (Nat.le_of_ble_eq_true rfl) dX10_all_1 rfl (fun M1 h1 => ?_)
  refine k_sub [(0, .ref (ga g 91))] [0] rfl ?_
  refine k_all (M' := M1) (lo' := [(0, .ref (ga g 91))]) (st' := []) (by rfl) (by rfl) rfl ?_
  refine k_loop (σ := Nat × PR × Mem) (fun (v : Nat × PR × Mem) => match v with | (i, r, M2) => (i ≤ r.2.1) ∧ (okS n r.2) ∧ (mR M0 M2 od r) ∧ ((if ((pJd (smf (M0 92) n) (pSg (smf (M0 92) n) u od) 3) s).1 = true then pLoopJ (smf (M0 92) n) (pJd (smf (M0 92) n) (pSg (smf (M0 92) n) u od) 3) (nI (5 - (3 + 1))) 60 ((pJd (smf (M0 92) n) (pSg (smf (M0 92) n) u od) 3) s).2 else (false, ((pJd (smf (M0 92) n) (pSg (smf (M0 92) n) u od) 3) s).2)) = if r.1 = true then pLoopJ (smf (M0 92) n) (pJd (smf (M0 92) n) (pSg (smf (M0 92) n) u od) 3) (nI (5 - (3 + 1))) (60 - i) r.2 else (false, r.2))) (fun (v : Nat × PR × Mem) => match v with | (i, r, M2) => 61 - i) (fun (v : Nat × PR × Mem) => match v with | (i, r, M2) => M2) (fun (v : Nat × PR × Mem) => match v with | (i, r, M2) => [(0, .ref (ga g 91))]) (0, (pJd (smf (M0 92) n) (pSg (smf (M0 92) n) u od) 3) s, M1) (show (0 ≤ ((pJd (smf (M0 92) n) (pSg (smf (M0 92) n) u od) 3) s).2.1) ∧ (okS n ((pJd (smf (M0 92) n) (pSg (smf (M0 92) n) u od) 3) s).2) ∧ (mR M0 M1 od ((pJd (smf (M0 92) n) (pSg (smf (M0 92) n) u od) 3) s)) ∧ ((if ((pJd (smf (M0 92) n) (pSg (smf (M0 92) n) u od) 3) s).1 = true then pLoopJ (smf (M0 92) n) (pJd (smf (M0 92) n) (pSg (smf (M0 92) n) u od) 3) (nI (5 - (3 + 1))) 60 ((pJd (smf (M0 92) n) (pSg (smf (M0 92) n) u od) 3) s).2 else (false, ((pJd (smf (M0 92) n) (pSg (smf (M0 92) n) u od) 3) s).2)) = if ((pJd (smf (M0 92) n) (pSg (smf (M0 92) n) u od) 3) s).1 = true then pLoopJ (smf (M0 92) n) (pJd (smf (M0 92) n) (pSg (smf (M0 92) n) u od) 3) (nI (5 - (3 + 1))) (60 - 0) ((pJd (smf (M0 92) n) (pSg (smf (M0 92) n) u od) 3) s).2 else (false, ((pJd (smf (M0 92) n) (pSg (smf (M0 92) n) u od) 3) s).2)) from by exact ⟨Nat.zero_le _, hok1, h1, rfl⟩) ?_
  rintro ⟨i, r, M2⟩ hI ih
  have hI : (i ≤ r.2.1) ∧ (okS n r.2) ∧ (mR M0 M2 od r) ∧ ((if ((pJd (smf (M0 92) n) (pSg (smf (M0 92) n) u od) 3) s).1 = true then pLoopJ (smf (M0 92) n) (pJd (smf (M0 92) n) (pSg (smf (M0 92) n) u od) 3) (nI (5 - (3 + 1))) 60 ((pJd (smf (M0 92) n) (pSg (smf (M0 92) n) u od) 3) s).2 else (false, ((pJd (smf (M0 92) n) (pSg (smf (M0 92) n) u od) 3) s).2)) = if r.1 = true then pLoopJ (smf (M0 92) n) (pJd (smf (M0 92) n) (pSg (smf (M0 92) n) u od) 3) (nI (5 - (3 + 1))) (60 - i) r.2 else (false, r.2)) := hI
  obtain ⟨hi, hr, hR, he⟩ := hI
  show KW pP l eE RR sS mI aG bB mE cD g 1 _ (M2) 4 [(0, .ref (ga g 91))] []
  have hpr := hr.1
  cases hrt : r.1 with
  | false =>
    have h2 := hR.2 hrt
    refine k_aload_n C 5 0 rfl rfl dX10_all_4 rfl ?_
    refine k_get C 8 flX10_131 91 (by decide) (v := .int ((M2) 91 15)) (ce_91 g _) rfl dX10_all_5 rfl ?_
    refine k_teq (y := 1) h2.2.2.2.1 ?_
    refine k_if_ne C 44 11 dX10_all_8 (by decide) rfl (fun c8 => ?_) (fun d8 => ?_)
    · skip
      refine k_vret C dX10_all_44 ?_
      show mR M0 M2 od (pJd (smf (M0 92) n) (pSg (smf (M0 92) n) u od) 4 s)
      have hf : (pJd (smf (M0 92) n) (pSg (smf (M0 92) n) u od) 4 s) = (if ((pJd (smf (M0 92) n) (pSg (smf (M0 92) n) u od) 3) s).1 = true then pLoopJ (smf (M0 92) n) (pJd (smf (M0 92) n) (pSg (smf (M0 92) n) u od) 3) (nI (5 - (3 + 1))) 60 ((pJd (smf (M0 92) n) (pSg (smf (M0 92) n) u od) 3) s).2 else (false, ((pJd (smf (M0 92) n) (pSg (smf (M0 92) n) u od) 3) s).2)) := by simp only [pJd]; rfl
      rw [hf, he]
      rw [if_neg (by rw [hrt]; decide)]; exact mR_f h2
    · skip
      exact absurd d8 (by decide)
  | true =>
    have h2 := hR.1 hrt
    refine k_aload_n C 5 0 rfl rfl dX10_all_4 rfl ?_
    refine k_get C 8 flX10_131 91 (by decide) (v := .int ((M2) 91 15)) (ce_91 g _) rfl dX10_all_5 rfl ?_
    refine k_teq (y := 0) h2.2.2.2.2.1 ?_
    refine k_if_ne C 44 11 dX10_all_8 (by decide) rfl (fun c8 => ?_) (fun d8 => ?_)
    · skip
      exact absurd c8 (by decide)
    · skip
      refine k_aload_n C 12 0 rfl rfl dX10_all_11 rfl ?_
      refine k_callVE C 15 (As := []) (st := []) 91 (by decide) (ce_91 g _) rfl rfl mwX10_127 vlX10_look (qX10_look l g M0 M2 hH (p := r.2.1) h2.1 hr.1 h2.2.2.2.2.2) mlX10_look (by omega) (by decide) rfl rfl (Nat.le_of_ble_eq_true rfl) dX10_all_12 rfl ?_
      refine k_bipush C 17 (v := 38) (by decide) dX10_all_15 rfl ?_
      refine k_icmp_ne C 44 20 dX10_all_17 (by decide) rfl (fun c17 => ?_) (fun d17 => ?_)
      · skip
        refine k_vret C dX10_all_44 ?_
        show mR M0 M2 od (pJd (smf (M0 92) n) (pSg (smf (M0 92) n) u od) 4 s)
        have hf : (pJd (smf (M0 92) n) (pSg (smf (M0 92) n) u od) 4 s) = (if ((pJd (smf (M0 92) n) (pSg (smf (M0 92) n) u od) 3) s).1 = true then pLoopJ (smf (M0 92) n) (pJd (smf (M0 92) n) (pSg (smf (M0 92) n) u od) 3) (nI (5 - (3 + 1))) 60 ((pJd (smf (M0 92) n) (pSg (smf (M0 92) n) u od) 3) s).2 else (false, ((pJd (smf (M0 92) n) (pSg (smf (M0 92) n) u od) 3) s).2)) := by simp only [pJd]; rfl
        rw [hf, he]
        rw [if_pos hrt]
        have hx : pLoopJ (smf (M0 92) n) (pJd (smf (M0 92) n) (pSg (smf (M0 92) n) u od) 3) (nI (5 - (3 + 1))) (60 - i) r.2 = (true, r.2) := by
          cases hk : 60 - i with
          | zero => rfl
          | succ k => simp only [pLoopJ]; rw [if_neg (show ¬ pLvl _ = nI (5 - (3 + 1)) from lvl_1 c17)]
        rw [hx]; exact mR_t h2
      · skip
        refine k_aload_n C 21 0 rfl rfl dX10_all_20 rfl ?_
        refine k_dup C 22 rfl dX10_all_21 rfl ?_
        refine k_get C 25 flX10_117 91 (by decide) (v := .int ((M2) 91 13)) (ce_91 g _) rfl dX10_all_22 rfl ?_
        refine k_teq (y := nI r.2.1) h2.1 ?_
        refine k_iconst C 26 (v := 1) (by decide) dX10_all_25 rfl ?_
        refine k_iadd C 27 dX10_all_26 rfl ?_
        refine k_teq (nI_add r.2.1 1) ?_
        refine k_put C 30 flX10_117 plX10 91 (by decide) (ce_91 g _) (ce_91 g _) (Nat.le_of_ble_eq_true rfl) rfl rfl rfl dX10_all_27 rfl ?_
        refine k_aload_n C 31 0 rfl rfl dX10_all_30 rfl ?_
        have hlv : pLvl ((smf (M0 92) n) r.2.1) = nI (5 - (3 + 1)) := by rw [d17]; decide
        have hlt := lvl_in (smf_end (M0 92) n) (show 5 - (3 + 1) ≤ 5 by decide) hlv
        have hgo : okS n (psGo r.2) := ⟨hlt, hr.2⟩
        refine k_callVV C 34 (As := []) (st := []) 91 (by decide) (ce_91 g _) rfl rfl mwX10_164 vlX10_compares (hO M0 _ n u (psGo r.2) hH hgo (mC_go h2)) mlX10_compares (by omega) (by decide) rfl rfl (Nat.le_of_ble_eq_true rfl) dX10_all_31 rfl (fun M3 h3 => ?_)
        have hmo := pJd_mono (sg := (smf (M0 92) n)) (pSg_mono (smf (M0 92) n) u od) 3 (psGo r.2)
        have hok3 := pJd_ok (smf_end (M0 92) n) (pSg_ok (smf_end (M0 92) n) hH.2.2.2 od) 3 (by decide) (psGo r.2) hgo
        cases hr3 : ((pJd (smf (M0 92) n) (pSg (smf (M0 92) n) u od) 3) (psGo r.2)).1 with
        | false =>
          have h4 := h3.2 hr3
          obtain ⟨z, hz, hz12⟩ := h4.2.1
          refine k_aload_n C 35 0 rfl rfl dX10_all_34 rfl ?_
          refine k_bipush C 37 (v := 38) (by decide) dX10_all_35 rfl ?_
          refine k_iconst C 38 (v := 0) (by decide) dX10_all_37 rfl ?_
          refine k_callVU C 41 (As := [.int 38, .int 0]) (st := []) 91 (by decide) (ce_91 g _) rfl rfl mwX10_135 vlX10_step (qX10_step l g M3 (z := z) hz hz12 38 0) mlX10_step (by omega) (by decide) rfl rfl (Nat.le_of_ble_eq_true rfl) dX10_all_38 rfl ?_
          refine k_goto C 4 dX10_all_41 (by decide) ?_
          refine k_sub [(0, .ref (ga g 91))] [0] rfl ?_
          refine k_all (M' := (stM M3 z 38 0)) (lo' := [(0, .ref (ga g 91))]) (st' := []) (by rfl) (by rfl) rfl ?_
          exact ih (i + 1, (false, ((pJd (smf (M0 92) n) (pSg (smf (M0 92) n) u od) 3) (psGo r.2)).2), stM M3 z 38 0) (show ((i + 1) ≤ (false, ((pJd (smf (M0 92) n) (pSg (smf (M0 92) n) u od) 3) (psGo r.2)).2).2.1) ∧ (okS n (false, ((pJd (smf (M0 92) n) (pSg (smf (M0 92) n) u od) 3) (psGo r.2)).2).2) ∧ (mR M0 (stM M3 z 38 0) od (false, ((pJd (smf (M0 92) n) (pSg (smf (M0 92) n) u od) 3) (psGo r.2)).2)) ∧ ((if ((pJd (smf (M0 92) n) (pSg (smf (M0 92) n) u od) 3) s).1 = true then pLoopJ (smf (M0 92) n) (pJd (smf (M0 92) n) (pSg (smf (M0 92) n) u od) 3) (nI (5 - (3 + 1))) 60 ((pJd (smf (M0 92) n) (pSg (smf (M0 92) n) u od) 3) s).2 else (false, ((pJd (smf (M0 92) n) (pSg (smf (M0 92) n) u od) 3) s).2)) = if (false, ((pJd (smf (M0 92) n) (pSg (smf (M0 92) n) u od) 3) (psGo r.2)).2).1 = true then pLoopJ (smf (M0 92) n) (pJd (smf (M0 92) n) (pSg (smf (M0 92) n) u od) 3) (nI (5 - (3 + 1))) (60 - (i + 1)) (false, ((pJd (smf (M0 92) n) (pSg (smf (M0 92) n) u od) 3) (psGo r.2)).2).2 else (false, (false, ((pJd (smf (M0 92) n) (pSg (smf (M0 92) n) u od) 3) (psGo r.2)).2).2)) from by exact ⟨Nat.le_trans (Nat.succ_le_succ hi) hmo, hok3, mR_f (mB_add h4 hz hz12 38 0), by rw [he, if_pos hrt, show 60 - i = (60 - (i + 1)) + 1 by omega]; simp only [pLoopJ]; rw [if_pos hlv, if_neg (by rw [hr3]; decide), if_neg (by decide)]⟩) (by show 61 - (i + 1) < 61 - i; omega)
        | true =>
          have h4 := h3.1 hr3
          refine k_aload_n C 35 0 rfl rfl dX10_all_34 rfl ?_
          refine k_bipush C 37 (v := 38) (by decide) dX10_all_35 rfl ?_
          refine k_iconst C 38 (v := 0) (by decide) dX10_all_37 rfl ?_
          refine k_callVU C 41 (As := [.int 38, .int 0]) (st := []) 91 (by decide) (ce_91 g _) rfl rfl mwX10_135 vlX10_step (qX10_step l g M3 (z := (((pJd (smf (M0 92) n) (pSg (smf (M0 92) n) u od) 3) (psGo r.2)).2).2.1) hok3.2 h4.2.1 38 0) mlX10_step (by omega) (by decide) rfl rfl (Nat.le_of_ble_eq_true rfl) dX10_all_38 rfl ?_
          refine k_goto C 4 dX10_all_41 (by decide) ?_
          refine k_sub [(0, .ref (ga g 91))] [0] rfl ?_
          refine k_all (M' := (stM M3 ((((pJd (smf (M0 92) n) (pSg (smf (M0 92) n) u od) 3) (psGo r.2)).2).2.1) 38 0)) (lo' := [(0, .ref (ga g 91))]) (st' := []) (by rfl) (by rfl) rfl ?_
          exact ih (i + 1, (true, psAdd ((pJd (smf (M0 92) n) (pSg (smf (M0 92) n) u od) 3) (psGo r.2)).2 (-((smf (M0 92) n) r.2.1))), stM M3 ((((pJd (smf (M0 92) n) (pSg (smf (M0 92) n) u od) 3) (psGo r.2)).2).2.1) 38 0) (show ((i + 1) ≤ (true, psAdd ((pJd (smf (M0 92) n) (pSg (smf (M0 92) n) u od) 3) (psGo r.2)).2 (-((smf (M0 92) n) r.2.1))).2.1) ∧ (okS n (true, psAdd ((pJd (smf (M0 92) n) (pSg (smf (M0 92) n) u od) 3) (psGo r.2)).2 (-((smf (M0 92) n) r.2.1))).2) ∧ (mR M0 (stM M3 ((((pJd (smf (M0 92) n) (pSg (smf (M0 92) n) u od) 3) (psGo r.2)).2).2.1) 38 0) od (true, psAdd ((pJd (smf (M0 92) n) (pSg (smf (M0 92) n) u od) 3) (psGo r.2)).2 (-((smf (M0 92) n) r.2.1)))) ∧ ((if ((pJd (smf (M0 92) n) (pSg (smf (M0 92) n) u od) 3) s).1 = true then pLoopJ (smf (M0 92) n) (pJd (smf (M0 92) n) (pSg (smf (M0 92) n) u od) 3) (nI (5 - (3 + 1))) 60 ((pJd (smf (M0 92) n) (pSg (smf (M0 92) n) u od) 3) s).2 else (false, ((pJd (smf (M0 92) n) (pSg (smf (M0 92) n) u od) 3) s).2)) = if (true, psAdd ((pJd (smf (M0 92) n) (pSg (smf (M0 92) n) u od) 3) (psGo r.2)).2 (-((smf (M0 92) n) r.2.1))).1 = true then pLoopJ (smf (M0 92) n) (pJd (smf (M0 92) n) (pSg (smf (M0 92) n) u od) 3) (nI (5 - (3 + 1))) (60 - (i + 1)) (true, psAdd ((pJd (smf (M0 92) n) (pSg (smf (M0 92) n) u od) 3) (psGo r.2)).2 (-((smf (M0 92) n) r.2.1))).2 else (false, (true, psAdd ((pJd (smf (M0 92) n) (pSg (smf (M0 92) n) u od) 3) (psGo r.2)).2 (-((smf (M0 92) n) r.2.1))).2)) from by exact ⟨by show i + 1 ≤ (psAdd _ _).1; rw [psAdd_1]; exact Nat.le_trans (Nat.succ_le_succ hi) hmo, psAdd_ok _ hok3, mR_t (mC_add h4 38 0 (-((smf (M0 92) n) r.2.1)) (by have e := sign_ok (by decide) hlv; rw [d17] at e ⊢; exact e)), by rw [he, if_pos hrt, show 60 - i = (60 - (i + 1)) + 1 by omega]; simp only [pLoopJ]; rw [if_pos hlv, if_pos hr3, if_pos trivial]⟩) (by show 61 - (i + 1) < 61 - i; omega)
set_option maxHeartbeats 4000000 in
set_option maxRecDepth 20000 in
theorem qX10_any (l : Launch) (g : GT) (od : Nat) (h5 : od ≤ 5) (hO : ∀ (M0 M : Mem) (n u : Nat) (s : PS), mH M0 n u → okS n s → mC M0 M od s → CtrV l g yX10_all cX10_all 1 (8 * od + 7) [.ref (ga g 91)] M (fun M1 => mR M0 M1 od (pJd (smf (M0 92) n) (pSg (smf (M0 92) n) u od) 4 s))) (M0 M : Mem) {n u : Nat} (s : PS) (hH : mH M0 n u) (hs : okS n s) (hC : mC M0 M od s) : CtrV l g yX10_any cX10_any 1 (8 * od + 8) [.ref (ga g 91)] M (fun M1 => mR M0 M1 od (pJd (smf (M0 92) n) (pSg (smf (M0 92) n) u od) 5 s)) := by
  refine ctrV_of (by decide +kernel) (Nat.le_of_ble_eq_true rfl) ?_
  intro pP eE RR sS mI aG bB mE cD C
  refine k_lo (lo' := [(0, .ref (ga g 91))]) rfl ?_
  have hn60 := hH.2.1
  have hp := hs.1
  have hz := hs.2
  have hok1 := pJd_ok (smf_end (M0 92) n) (pSg_ok (smf_end (M0 92) n) hH.2.2.2 od) 4 (by decide) s hs
  refine k_aload_n C 1 0 rfl rfl dX10_any_0 rfl ?_
  refine k_callVV C 4 (As := []) (st := []) 91 (by decide) (ce_91 g _) rfl rfl mwX10_167 vlX10_all (hO M0 M n u s hH hs hC) mlX10_all (by omega) (by decide) rfl rfl (Nat.le_of_ble_eq_true rfl) dX10_any_1 rfl (fun M1 h1 => ?_)
  refine k_sub [(0, .ref (ga g 91))] [0] rfl ?_
  refine k_all (M' := M1) (lo' := [(0, .ref (ga g 91))]) (st' := []) (by rfl) (by rfl) rfl ?_
  refine k_loop (σ := Nat × PR × Mem) (fun (v : Nat × PR × Mem) => match v with | (i, r, M2) => (i ≤ r.2.1) ∧ (okS n r.2) ∧ (mR M0 M2 od r) ∧ ((if ((pJd (smf (M0 92) n) (pSg (smf (M0 92) n) u od) 4) s).1 = true then pLoopJ (smf (M0 92) n) (pJd (smf (M0 92) n) (pSg (smf (M0 92) n) u od) 4) (nI (5 - (4 + 1))) 60 ((pJd (smf (M0 92) n) (pSg (smf (M0 92) n) u od) 4) s).2 else (false, ((pJd (smf (M0 92) n) (pSg (smf (M0 92) n) u od) 4) s).2)) = if r.1 = true then pLoopJ (smf (M0 92) n) (pJd (smf (M0 92) n) (pSg (smf (M0 92) n) u od) 4) (nI (5 - (4 + 1))) (60 - i) r.2 else (false, r.2))) (fun (v : Nat × PR × Mem) => match v with | (i, r, M2) => 61 - i) (fun (v : Nat × PR × Mem) => match v with | (i, r, M2) => M2) (fun (v : Nat × PR × Mem) => match v with | (i, r, M2) => [(0, .ref (ga g 91))]) (0, (pJd (smf (M0 92) n) (pSg (smf (M0 92) n) u od) 4) s, M1) (show (0 ≤ ((pJd (smf (M0 92) n) (pSg (smf (M0 92) n) u od) 4) s).2.1) ∧ (okS n ((pJd (smf (M0 92) n) (pSg (smf (M0 92) n) u od) 4) s).2) ∧ (mR M0 M1 od ((pJd (smf (M0 92) n) (pSg (smf (M0 92) n) u od) 4) s)) ∧ ((if ((pJd (smf (M0 92) n) (pSg (smf (M0 92) n) u od) 4) s).1 = true then pLoopJ (smf (M0 92) n) (pJd (smf (M0 92) n) (pSg (smf (M0 92) n) u od) 4) (nI (5 - (4 + 1))) 60 ((pJd (smf (M0 92) n) (pSg (smf (M0 92) n) u od) 4) s).2 else (false, ((pJd (smf (M0 92) n) (pSg (smf (M0 92) n) u od) 4) s).2)) = if ((pJd (smf (M0 92) n) (pSg (smf (M0 92) n) u od) 4) s).1 = true then pLoopJ (smf (M0 92) n) (pJd (smf (M0 92) n) (pSg (smf (M0 92) n) u od) 4) (nI (5 - (4 + 1))) (60 - 0) ((pJd (smf (M0 92) n) (pSg (smf (M0 92) n) u od) 4) s).2 else (false, ((pJd (smf (M0 92) n) (pSg (smf (M0 92) n) u od) 4) s).2)) from by exact ⟨Nat.zero_le _, hok1, h1, rfl⟩) ?_
  rintro ⟨i, r, M2⟩ hI ih
  have hI : (i ≤ r.2.1) ∧ (okS n r.2) ∧ (mR M0 M2 od r) ∧ ((if ((pJd (smf (M0 92) n) (pSg (smf (M0 92) n) u od) 4) s).1 = true then pLoopJ (smf (M0 92) n) (pJd (smf (M0 92) n) (pSg (smf (M0 92) n) u od) 4) (nI (5 - (4 + 1))) 60 ((pJd (smf (M0 92) n) (pSg (smf (M0 92) n) u od) 4) s).2 else (false, ((pJd (smf (M0 92) n) (pSg (smf (M0 92) n) u od) 4) s).2)) = if r.1 = true then pLoopJ (smf (M0 92) n) (pJd (smf (M0 92) n) (pSg (smf (M0 92) n) u od) 4) (nI (5 - (4 + 1))) (60 - i) r.2 else (false, r.2)) := hI
  obtain ⟨hi, hr, hR, he⟩ := hI
  show KW pP l eE RR sS mI aG bB mE cD g 1 _ (M2) 4 [(0, .ref (ga g 91))] []
  have hpr := hr.1
  cases hrt : r.1 with
  | false =>
    have h2 := hR.2 hrt
    refine k_aload_n C 5 0 rfl rfl dX10_any_4 rfl ?_
    refine k_get C 8 flX10_131 91 (by decide) (v := .int ((M2) 91 15)) (ce_91 g _) rfl dX10_any_5 rfl ?_
    refine k_teq (y := 1) h2.2.2.2.1 ?_
    refine k_if_ne C 44 11 dX10_any_8 (by decide) rfl (fun c8 => ?_) (fun d8 => ?_)
    · skip
      refine k_vret C dX10_any_44 ?_
      show mR M0 M2 od (pJd (smf (M0 92) n) (pSg (smf (M0 92) n) u od) 5 s)
      have hf : (pJd (smf (M0 92) n) (pSg (smf (M0 92) n) u od) 5 s) = (if ((pJd (smf (M0 92) n) (pSg (smf (M0 92) n) u od) 4) s).1 = true then pLoopJ (smf (M0 92) n) (pJd (smf (M0 92) n) (pSg (smf (M0 92) n) u od) 4) (nI (5 - (4 + 1))) 60 ((pJd (smf (M0 92) n) (pSg (smf (M0 92) n) u od) 4) s).2 else (false, ((pJd (smf (M0 92) n) (pSg (smf (M0 92) n) u od) 4) s).2)) := by simp only [pJd]; rfl
      rw [hf, he]
      rw [if_neg (by rw [hrt]; decide)]; exact mR_f h2
    · skip
      exact absurd d8 (by decide)
  | true =>
    have h2 := hR.1 hrt
    refine k_aload_n C 5 0 rfl rfl dX10_any_4 rfl ?_
    refine k_get C 8 flX10_131 91 (by decide) (v := .int ((M2) 91 15)) (ce_91 g _) rfl dX10_any_5 rfl ?_
    refine k_teq (y := 0) h2.2.2.2.2.1 ?_
    refine k_if_ne C 44 11 dX10_any_8 (by decide) rfl (fun c8 => ?_) (fun d8 => ?_)
    · skip
      exact absurd c8 (by decide)
    · skip
      refine k_aload_n C 12 0 rfl rfl dX10_any_11 rfl ?_
      refine k_callVE C 15 (As := []) (st := []) 91 (by decide) (ce_91 g _) rfl rfl mwX10_127 vlX10_look (qX10_look l g M0 M2 hH (p := r.2.1) h2.1 hr.1 h2.2.2.2.2.2) mlX10_look (by omega) (by decide) rfl rfl (Nat.le_of_ble_eq_true rfl) dX10_any_12 rfl ?_
      refine k_bipush C 17 (v := 124) (by decide) dX10_any_15 rfl ?_
      refine k_icmp_ne C 44 20 dX10_any_17 (by decide) rfl (fun c17 => ?_) (fun d17 => ?_)
      · skip
        refine k_vret C dX10_any_44 ?_
        show mR M0 M2 od (pJd (smf (M0 92) n) (pSg (smf (M0 92) n) u od) 5 s)
        have hf : (pJd (smf (M0 92) n) (pSg (smf (M0 92) n) u od) 5 s) = (if ((pJd (smf (M0 92) n) (pSg (smf (M0 92) n) u od) 4) s).1 = true then pLoopJ (smf (M0 92) n) (pJd (smf (M0 92) n) (pSg (smf (M0 92) n) u od) 4) (nI (5 - (4 + 1))) 60 ((pJd (smf (M0 92) n) (pSg (smf (M0 92) n) u od) 4) s).2 else (false, ((pJd (smf (M0 92) n) (pSg (smf (M0 92) n) u od) 4) s).2)) := by simp only [pJd]; rfl
        rw [hf, he]
        rw [if_pos hrt]
        have hx : pLoopJ (smf (M0 92) n) (pJd (smf (M0 92) n) (pSg (smf (M0 92) n) u od) 4) (nI (5 - (4 + 1))) (60 - i) r.2 = (true, r.2) := by
          cases hk : 60 - i with
          | zero => rfl
          | succ k => simp only [pLoopJ]; rw [if_neg (show ¬ pLvl _ = nI (5 - (4 + 1)) from lvl_0 c17)]
        rw [hx]; exact mR_t h2
      · skip
        refine k_aload_n C 21 0 rfl rfl dX10_any_20 rfl ?_
        refine k_dup C 22 rfl dX10_any_21 rfl ?_
        refine k_get C 25 flX10_117 91 (by decide) (v := .int ((M2) 91 13)) (ce_91 g _) rfl dX10_any_22 rfl ?_
        refine k_teq (y := nI r.2.1) h2.1 ?_
        refine k_iconst C 26 (v := 1) (by decide) dX10_any_25 rfl ?_
        refine k_iadd C 27 dX10_any_26 rfl ?_
        refine k_teq (nI_add r.2.1 1) ?_
        refine k_put C 30 flX10_117 plX10 91 (by decide) (ce_91 g _) (ce_91 g _) (Nat.le_of_ble_eq_true rfl) rfl rfl rfl dX10_any_27 rfl ?_
        refine k_aload_n C 31 0 rfl rfl dX10_any_30 rfl ?_
        have hlv : pLvl ((smf (M0 92) n) r.2.1) = nI (5 - (4 + 1)) := by rw [d17]; decide
        have hlt := lvl_in (smf_end (M0 92) n) (show 5 - (4 + 1) ≤ 5 by decide) hlv
        have hgo : okS n (psGo r.2) := ⟨hlt, hr.2⟩
        refine k_callVV C 34 (As := []) (st := []) 91 (by decide) (ce_91 g _) rfl rfl mwX10_167 vlX10_all (hO M0 _ n u (psGo r.2) hH hgo (mC_go h2)) mlX10_all (by omega) (by decide) rfl rfl (Nat.le_of_ble_eq_true rfl) dX10_any_31 rfl (fun M3 h3 => ?_)
        have hmo := pJd_mono (sg := (smf (M0 92) n)) (pSg_mono (smf (M0 92) n) u od) 4 (psGo r.2)
        have hok3 := pJd_ok (smf_end (M0 92) n) (pSg_ok (smf_end (M0 92) n) hH.2.2.2 od) 4 (by decide) (psGo r.2) hgo
        cases hr3 : ((pJd (smf (M0 92) n) (pSg (smf (M0 92) n) u od) 4) (psGo r.2)).1 with
        | false =>
          have h4 := h3.2 hr3
          obtain ⟨z, hz, hz12⟩ := h4.2.1
          refine k_aload_n C 35 0 rfl rfl dX10_any_34 rfl ?_
          refine k_bipush C 37 (v := 124) (by decide) dX10_any_35 rfl ?_
          refine k_iconst C 38 (v := 0) (by decide) dX10_any_37 rfl ?_
          refine k_callVU C 41 (As := [.int 124, .int 0]) (st := []) 91 (by decide) (ce_91 g _) rfl rfl mwX10_135 vlX10_step (qX10_step l g M3 (z := z) hz hz12 124 0) mlX10_step (by omega) (by decide) rfl rfl (Nat.le_of_ble_eq_true rfl) dX10_any_38 rfl ?_
          refine k_goto C 4 dX10_any_41 (by decide) ?_
          refine k_sub [(0, .ref (ga g 91))] [0] rfl ?_
          refine k_all (M' := (stM M3 z 124 0)) (lo' := [(0, .ref (ga g 91))]) (st' := []) (by rfl) (by rfl) rfl ?_
          exact ih (i + 1, (false, ((pJd (smf (M0 92) n) (pSg (smf (M0 92) n) u od) 4) (psGo r.2)).2), stM M3 z 124 0) (show ((i + 1) ≤ (false, ((pJd (smf (M0 92) n) (pSg (smf (M0 92) n) u od) 4) (psGo r.2)).2).2.1) ∧ (okS n (false, ((pJd (smf (M0 92) n) (pSg (smf (M0 92) n) u od) 4) (psGo r.2)).2).2) ∧ (mR M0 (stM M3 z 124 0) od (false, ((pJd (smf (M0 92) n) (pSg (smf (M0 92) n) u od) 4) (psGo r.2)).2)) ∧ ((if ((pJd (smf (M0 92) n) (pSg (smf (M0 92) n) u od) 4) s).1 = true then pLoopJ (smf (M0 92) n) (pJd (smf (M0 92) n) (pSg (smf (M0 92) n) u od) 4) (nI (5 - (4 + 1))) 60 ((pJd (smf (M0 92) n) (pSg (smf (M0 92) n) u od) 4) s).2 else (false, ((pJd (smf (M0 92) n) (pSg (smf (M0 92) n) u od) 4) s).2)) = if (false, ((pJd (smf (M0 92) n) (pSg (smf (M0 92) n) u od) 4) (psGo r.2)).2).1 = true then pLoopJ (smf (M0 92) n) (pJd (smf (M0 92) n) (pSg (smf (M0 92) n) u od) 4) (nI (5 - (4 + 1))) (60 - (i + 1)) (false, ((pJd (smf (M0 92) n) (pSg (smf (M0 92) n) u od) 4) (psGo r.2)).2).2 else (false, (false, ((pJd (smf (M0 92) n) (pSg (smf (M0 92) n) u od) 4) (psGo r.2)).2).2)) from by exact ⟨Nat.le_trans (Nat.succ_le_succ hi) hmo, hok3, mR_f (mB_add h4 hz hz12 124 0), by rw [he, if_pos hrt, show 60 - i = (60 - (i + 1)) + 1 by omega]; simp only [pLoopJ]; rw [if_pos hlv, if_neg (by rw [hr3]; decide), if_neg (by decide)]⟩) (by show 61 - (i + 1) < 61 - i; omega)
        | true =>
          have h4 := h3.1 hr3
          refine k_aload_n C 35 0 rfl rfl dX10_any_34 rfl ?_
          refine k_bipush C 37 (v := 124) (by decide) dX10_any_35 rfl ?_
          refine k_iconst C 38 (v := 0) (by decide) dX10_any_37 rfl ?_
          refine k_callVU C 41 (As := [.int 124, .int 0]) (st := []) 91 (by decide) (ce_91 g _) rfl rfl mwX10_135 vlX10_step (qX10_step l g M3 (z := (((pJd (smf (M0 92) n) (pSg (smf (M0 92) n) u od) 4) (psGo r.2)).2).2.1) hok3.2 h4.2.1 124 0) mlX10_step (by omega) (by decide) rfl rfl (Nat.le_of_ble_eq_true rfl) dX10_any_38 rfl ?_
          refine k_goto C 4 dX10_any_41 (by decide) ?_
          refine k_sub [(0, .ref (ga g 91))] [0] rfl ?_
          refine k_all (M' := (stM M3 ((((pJd (smf (M0 92) n) (pSg (smf (M0 92) n) u od) 4) (psGo r.2)).2).2.1) 124 0)) (lo' := [(0, .ref (ga g 91))]) (st' := []) (by rfl) (by rfl) rfl ?_
          exact ih (i + 1, (true, psAdd ((pJd (smf (M0 92) n) (pSg (smf (M0 92) n) u od) 4) (psGo r.2)).2 (-((smf (M0 92) n) r.2.1))), stM M3 ((((pJd (smf (M0 92) n) (pSg (smf (M0 92) n) u od) 4) (psGo r.2)).2).2.1) 124 0) (show ((i + 1) ≤ (true, psAdd ((pJd (smf (M0 92) n) (pSg (smf (M0 92) n) u od) 4) (psGo r.2)).2 (-((smf (M0 92) n) r.2.1))).2.1) ∧ (okS n (true, psAdd ((pJd (smf (M0 92) n) (pSg (smf (M0 92) n) u od) 4) (psGo r.2)).2 (-((smf (M0 92) n) r.2.1))).2) ∧ (mR M0 (stM M3 ((((pJd (smf (M0 92) n) (pSg (smf (M0 92) n) u od) 4) (psGo r.2)).2).2.1) 124 0) od (true, psAdd ((pJd (smf (M0 92) n) (pSg (smf (M0 92) n) u od) 4) (psGo r.2)).2 (-((smf (M0 92) n) r.2.1)))) ∧ ((if ((pJd (smf (M0 92) n) (pSg (smf (M0 92) n) u od) 4) s).1 = true then pLoopJ (smf (M0 92) n) (pJd (smf (M0 92) n) (pSg (smf (M0 92) n) u od) 4) (nI (5 - (4 + 1))) 60 ((pJd (smf (M0 92) n) (pSg (smf (M0 92) n) u od) 4) s).2 else (false, ((pJd (smf (M0 92) n) (pSg (smf (M0 92) n) u od) 4) s).2)) = if (true, psAdd ((pJd (smf (M0 92) n) (pSg (smf (M0 92) n) u od) 4) (psGo r.2)).2 (-((smf (M0 92) n) r.2.1))).1 = true then pLoopJ (smf (M0 92) n) (pJd (smf (M0 92) n) (pSg (smf (M0 92) n) u od) 4) (nI (5 - (4 + 1))) (60 - (i + 1)) (true, psAdd ((pJd (smf (M0 92) n) (pSg (smf (M0 92) n) u od) 4) (psGo r.2)).2 (-((smf (M0 92) n) r.2.1))).2 else (false, (true, psAdd ((pJd (smf (M0 92) n) (pSg (smf (M0 92) n) u od) 4) (psGo r.2)).2 (-((smf (M0 92) n) r.2.1))).2)) from by exact ⟨by show i + 1 ≤ (psAdd _ _).1; rw [psAdd_1]; exact Nat.le_trans (Nat.succ_le_succ hi) hmo, psAdd_ok _ hok3, mR_t (mC_add h4 124 0 (-((smf (M0 92) n) r.2.1)) (by have e := sign_ok (by decide) hlv; rw [d17] at e ⊢; exact e)), by rw [he, if_pos hrt, show 60 - i = (60 - (i + 1)) + 1 by omega]; simp only [pLoopJ]; rw [if_pos hlv, if_pos hr3, if_pos trivial]⟩) (by show 61 - (i + 1) < 61 - i; omega)
