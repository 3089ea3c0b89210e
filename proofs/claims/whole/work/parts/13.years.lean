-- the class: Field, what changes it
def pNd (z : Int32) : Int32 := z * 1103515245 + 12345
def pUs (z : Int32) : Int32 := (z.toUInt32 >>> ((8 : Int32).toUInt32 &&& Int32.toUInt32 31)).toInt32
def pRem (x y : Int32) : Int32 := x - x / y * y
/-- one more furrow: its row, as n is made to n + 1 -/
def pAdd (M : Mem) (fi n : Nat) (km lc hand : Int32) : Mem := mu (mu (mu (mu (mu (mu (mu (mu M (12 * fi + n) 0 (km / 10)) (12 * fi + n) 1 (km - km / 10 * 10)) (12 * fi + n) 2 (lc / 10)) (12 * fi + n) 3 (lc - lc / 10 * 10)) (12 * fi + n) 4 hand) (12 * fi + n) 5 0) (12 * fi + n) 6 0) (37 + fi) 1 (nI (n + 1))
def pLineAt (x : Int32) : Int32 := 10 * (1 + x / 6) + (x - x / 6 * 6)
def pDraws (M : Mem) (fi n : Nat) : Mem :=
  let z0 := M (37 + fi) 4
  pAdd (mu (mu (mu M (37 + fi) 4 (pNd z0)) (37 + fi) 4 (pNd (pNd z0))) (37 + fi) 4 (pNd (pNd (pNd z0)))) fi n (10 * pRem (pUs (pNd z0)) 7) (pLineAt (pRem (pUs (pNd (pNd z0))) 72)) (pRem (pUs (pNd (pNd (pNd z0)))) 6)
def pLoose (M : Mem) (fi n : Nat) : Mem := if n < 12 then pYM (pDraws M fi n) fi (n + 1) (M (37 + fi) 3) else pYM M fi n (M (37 + fi) 3)
def pYMs (M : Mem) (fi n : Nat) (pat : Int32) : Nat → Mem
  | 0 => M
  | k + 1 => pYM (pYMs M fi n pat k) fi n pat
theorem pYM_at {fi : Nat} (hfi : fi < 3) (M : Mem) (n : Nat) (pat : Int32) (q : Nat) (hq : q ≠ 2) : pYM M fi n pat (37 + fi) q = M (37 + fi) q := by
  unfold pYM; rw [mu_o _ _ _ hq, pYp_out _ _ _ _ _ (by omega)]
theorem pYMs_at {fi : Nat} (hfi : fi < 3) (M : Mem) (n : Nat) (pat : Int32) (q : Nat) (hq : q ≠ 2) : ∀ k, pYMs M fi n pat k (37 + fi) q = M (37 + fi) q
  | 0 => rfl
  | k + 1 => by rw [pYMs, pYM_at hfi _ _ _ _ hq, pYMs_at hfi M n pat q hq k]
theorem pYR_y (F : Nat → Nat → Int32) {n j : Nat} (pat : Int32) (hj : j < n) (h0 : F j 6 = 0) (h : pNx F (n - (j + 1)) (j + 1) = none) : pYR F n pat j = pUnh pat (F j) := by
  unfold pYR; rw [if_pos ⟨hj, h0, by unfold pHeard; rw [h]⟩]
theorem pYR_f (F : Nat → Nat → Int32) {n j a : Nat} (pat : Int32) (hj : j < n) (h0 : F j 6 = 0) (h : pNx F (n - (j + 1)) (j + 1) = some a) (h2 : pAns (F a) (F j) = false) : pYR F n pat j = pUnh pat (F j) := by
  unfold pYR; rw [if_pos ⟨hj, h0, by unfold pHeard; rw [h]; exact h2⟩]
theorem pYR_t (F : Nat → Nat → Int32) {n j a : Nat} (pat : Int32) (h : pNx F (n - (j + 1)) (j + 1) = some a) (h2 : pAns (F a) (F j) = true) : pYR F n pat j = F j := by
  unfold pYR; rw [if_neg]
  rintro ⟨-, -, h3⟩
  unfold pHeard at h3; rw [h] at h3
  exact absurd (h2.symm.trans h3) (by decide)
theorem pYR_c (F : Nat → Nat → Int32) {n j : Nat} (pat : Int32) (h0 : ¬ F j 6 = 0) : pYR F n pat j = F j := by
  unfold pYR; rw [if_neg]
  rintro ⟨-, h3, -⟩
  exact h0 h3
theorem pAns_Yp (M : Mem) (fi n : Nat) (pat : Int32) (q a b : Nat) (ha : a < 12) (hb : b < 12) : pAns (fF (pYp M fi n pat q) fi a) (fF (pYp M fi n pat q) fi b) = pAns (fF M fi a) (fF M fi b) :=
  pAns_congr (fun j hj => pYp_lo M fi n pat q a ha hj) (fun j hj => pYp_lo M fi n pat q b hb hj)

set_option maxHeartbeats 4000000 in
set_option maxRecDepth 20000 in
theorem qX1_passYear (l : Launch) (g : GT) (M : Mem) {fi : Nat} (hfi : fi < 3) {n : Nat} (hn : M (37 + fi) 1 = nI n) (h12 : n ≤ 12)  : CtrU l g yX1_passYear cX1_passYear 3 3 [.ref (ga g (37 + fi))] M (pYM M fi n (M (37 + fi) 3)) := by
  refine ctrV_of (by decide +kernel) (Nat.le_of_ble_eq_true rfl) ?_
  intro pP eE RR sS mI aG bB mE cD C
  refine k_lo (lo' := [(0, .ref (ga g (37 + fi)))]) rfl ?_
  refine k_iconst C 1 (v := (-1)) (by decide) dX1_passYear_0 rfl ?_
  refine k_istore_n C 2 [(1, .int (-1)), (0, .ref (ga g (37 + fi)))] rfl (by decide) rfl dX1_passYear_1 rfl ?_
  refine k_aload_n C 3 1 rfl rfl dX1_passYear_2 rfl ?_
  refine k_get C 6 flX1_25 (37 + fi) (lt105_fld hfi) (v := .int ((M) (37 + fi) 1)) (ce_fld g _ hfi) rfl dX1_passYear_3 rfl ?_
  refine k_teq (y := nI n) hn ?_
  refine k_iconst C 7 (v := 1) (by decide) dX1_passYear_6 rfl ?_
  refine k_isub C 8 dX1_passYear_7 rfl ?_
  refine k_istore_n C 9 [(2, .int ((nI n) - 1)), (1, .int (-1)), (0, .ref (ga g (37 + fi)))] rfl (by decide) rfl dX1_passYear_8 rfl ?_
  refine k_sub [(0, .ref (ga g (37 + fi))), (1, .int (-1)), (2, .int ((nI n) - 1))] [2, 1, 0] rfl ?_
  refine k_all (M' := pYp M fi n (M (37 + fi) 3) n) (lo' := [(0, .ref (ga g (37 + fi))), (1, .int (oI (pNx (fF M fi) (n - n) n))), (2, .int (nI n - 1))]) (st' := []) (by rw [pYp_n _ _ _ _ (Nat.le_refl _)]) (by rw [pNx_end _ (Nat.le_refl _)]; rfl) rfl ?_
  refine k_loop (σ := Nat) (fun (j : Nat) => (j ≤ n)) (fun (j : Nat) => j) (fun (j : Nat) => pYp M fi n (M (37 + fi) 3) j) (fun (j : Nat) => [(0, .ref (ga g (37 + fi))), (1, .int (oI (pNx (fF M fi) (n - j) j))), (2, .int (nI j - 1))]) n (show (n ≤ n) from by exact Nat.le_refl _) ?_
  rintro j hI ih
  have hI : (j ≤ n) := hI
  have hj := hI
  show KW pP l eE RR sS mI aG bB mE cD g 3 _ (pYp M fi n (M (37 + fi) 3) j) 9 [(0, .ref (ga g (37 + fi))), (1, .int (oI (pNx (fF M fi) (n - j) j))), (2, .int (nI j - 1))] []
  cases j with
  | zero =>
    refine k_sub [(0, .ref (ga g (37 + fi))), (2, .int (nI 0 - 1))] [0, 2] rfl ?_
    refine k_lo (lo' := [(0, .ref (ga g (37 + fi))), (2, .int (-1))]) (by rw [show nI 0 - 1 = (-1 : Int32) by decide]) ?_
    refine k_iload_n C 10 1 rfl rfl dX1_passYear_9 rfl ?_
    refine k_if_lt C 59 13 dX1_passYear_10 (by decide) rfl (fun c10 => ?_) (fun d10 => ?_)
    · skip
      refine k_aload_n C 60 0 rfl rfl dX1_passYear_59 rfl ?_
      refine k_dup C 61 rfl dX1_passYear_60 rfl ?_
      refine k_get C 64 flX1_78 (37 + fi) (lt105_fld hfi) (v := .int ((pYp M fi n (M (37 + fi) 3) 0) (37 + fi) 2)) (ce_fld g _ hfi) rfl dX1_passYear_61 rfl ?_
      refine k_teq (y := M (37 + fi) 2) (by rw [pYp_out _ _ _ _ _ (by omega)]) ?_
      refine k_iconst C 65 (v := 1) (by decide) dX1_passYear_64 rfl ?_
      refine k_iadd C 66 dX1_passYear_65 rfl ?_
      refine k_put C 69 flX1_78 plX1 (37 + fi) (lt105_fld hfi) (ce_fld g _ hfi) (ce_fld g _ hfi) (Nat.le_of_ble_eq_true rfl) rfl rfl rfl dX1_passYear_66 rfl ?_
      refine k_vret C dX1_passYear_69 ?_
      rfl
    · skip
      exact absurd d10 (by decide)
  | succ j =>
    refine k_lo (lo' := [(0, .ref (ga g (37 + fi))), (1, .int (oI (pNx (fF M fi) (n - (j + 1)) (j + 1)))), (2, .int (nI j))]) (by rw [nI_pred]) ?_
    refine k_iload_n C 10 2 rfl rfl dX1_passYear_9 rfl ?_
    refine k_if_lt C 59 13 dX1_passYear_10 (by decide) rfl (fun c10 => ?_) (fun d10 => ?_)
    · skip
      have c10 := (nI_ltI (by omega) (by omega)).mp (show nI j < nI 0 from c10)
      exact absurd c10 (by omega)
    · skip
      have d10 := mt (nI_ltI (by omega) (by omega)).mpr (show ¬ (nI j < nI 0) from d10)
      refine k_aload_n C 14 0 rfl rfl dX1_passYear_13 rfl ?_
      refine k_get C 17 flX1_11 (37 + fi) (lt105_fld hfi) (v := .ref (ga g (40 + fi))) (ce_fld g _ hfi) rfl dX1_passYear_14 rfl ?_
      refine k_iload_n C 18 2 rfl rfl dX1_passYear_17 rfl ?_
      refine k_aald C 19 (40 + fi) j 3 (lt105_fa hfi) (ce_fa g _ hfi) rfl (by decide) rfl (by omega) dX1_passYear_18 rfl ?_
      refine k_st (st' := [.ref (ga g (12 * fi + j))]) rfl ?_
      refine k_get C 22 flX1_41 (12 * fi + j) (lt105_fu (fu_lt hfi (by omega))) (v := .int ((pYp M fi n (M (37 + fi) 3) (j + 1)) (12 * fi + j) 6)) (ce_fu g _ (fu_lt hfi (by omega))) rfl dX1_passYear_19 rfl ?_
      refine k_teq (y := M (12 * fi + j) 6) (by rw [pYp_out _ _ _ _ _ (by omega)]) ?_
      refine k_if_ne C 53 25 dX1_passYear_22 (by decide) rfl (fun c22 => ?_) (fun d22 => ?_)
      · skip
        refine k_iinc C 56 (nI j - 1) 2 [(2, .int (nI j - 1)), (0, .ref (ga g (37 + fi))), (1, .int (oI (pNx (fF M fi) (n - (j + 1)) (j + 1))))] rfl (iinc_m _) (by decide) rfl dX1_passYear_53 rfl ?_
        refine k_goto C 9 dX1_passYear_56 (by decide) ?_
        refine k_sub [(0, .ref (ga g (37 + fi))), (1, .int (oI (pNx (fF M fi) (n - (j + 1)) (j + 1)))), (2, .int (nI j - 1))] [1, 2, 0] rfl ?_
        refine k_all (M' := pYp M fi n (M (37 + fi) 3) j) (lo' := [(0, .ref (ga g (37 + fi))), (1, .int (oI (pNx (fF M fi) (n - j) j))), (2, .int (nI j - 1))]) (st' := []) (by exact (pYp_same M fi n _ (by omega) (pYR_c _ _ (show ¬ fF M fi j 6 = 0 from c22)))) (by rw [pNx_skip _ (by omega) (show ¬ fF M fi j 6 = 0 from c22)]) rfl ?_
        exact ih j (show (j ≤ n) from by omega) (by show j < _; omega)
      · skip
        refine k_iload_n C 26 1 rfl rfl dX1_passYear_25 rfl ?_
        rcases q26 : pNx (fF M fi) (n - (j + 1)) (j + 1) with _ | a
        · skip
          have q26n := q26
          refine k_teq (y := (-1)) rfl ?_
          refine k_lo (lo' := [(0, .ref (ga g (37 + fi))), (1, .int (-1)), (2, .int (nI j))]) rfl ?_
          refine k_if_lt C 38 29 dX1_passYear_26 (by decide) rfl (fun c26 => ?_) (fun d26 => ?_)
          · skip
            refine k_aload_n C 39 0 rfl rfl dX1_passYear_38 rfl ?_
            refine k_get C 42 flX1_11 (37 + fi) (lt105_fld hfi) (v := .ref (ga g (40 + fi))) (ce_fld g _ hfi) rfl dX1_passYear_39 rfl ?_
            refine k_iload_n C 43 2 rfl rfl dX1_passYear_42 rfl ?_
            refine k_aald C 44 (40 + fi) j 3 (lt105_fa hfi) (ce_fa g _ hfi) rfl (by decide) rfl (by omega) dX1_passYear_43 rfl ?_
            refine k_st (st' := [.ref (ga g (12 * fi + j))]) rfl ?_
            refine k_aload_n C 45 0 rfl rfl dX1_passYear_44 rfl ?_
            refine k_get C 48 flX1_17 (37 + fi) (lt105_fld hfi) (v := .int ((pYp M fi n (M (37 + fi) 3) (j + 1)) (37 + fi) 3)) (ce_fld g _ hfi) rfl dX1_passYear_45 rfl ?_
            refine k_teq (y := M (37 + fi) 3) (by rw [pYp_out _ _ _ _ _ (by omega)]) ?_
            refine k_callVU C 51 (As := [.int (M (37 + fi) 3)]) (st := []) (12 * fi + j) (lt105_fu (fu_lt hfi (by omega))) (ce_fu g _ (fu_lt hfi (by omega))) rfl rfl mwX1_75 vlX2_goUnheard (qX2_goUnheard l g (pYp M fi n (M (37 + fi) 3) (j + 1)) (fu_lt hfi (by omega)) (M (37 + fi) 3) (by rw [pYp_out _ _ _ _ _ (by omega)]; exact d22)) mlX2_goUnheard (by decide) (by decide) rfl rfl (Nat.le_of_ble_eq_true rfl) dX1_passYear_48 rfl ?_
            refine k_iload_n C 52 2 rfl rfl dX1_passYear_51 rfl ?_
            refine k_istore_n C 53 [(1, .int (nI j)), (0, .ref (ga g (37 + fi))), (2, .int (nI j))] rfl (by decide) rfl dX1_passYear_52 rfl ?_
            refine k_iinc C 56 (nI j - 1) 2 [(2, .int (nI j - 1)), (1, .int (nI j)), (0, .ref (ga g (37 + fi)))] rfl (iinc_m _) (by decide) rfl dX1_passYear_53 rfl ?_
            refine k_goto C 9 dX1_passYear_56 (by decide) ?_
            refine k_sub [(0, .ref (ga g (37 + fi))), (1, .int (nI j)), (2, .int (nI j - 1))] [2, 1, 0] rfl ?_
            refine k_all (M' := pYp M fi n (M (37 + fi) 3) j) (lo' := [(0, .ref (ga g (37 + fi))), (1, .int (oI (pNx (fF M fi) (n - j) j))), (2, .int (nI j - 1))]) (st' := []) (by exact pYp_put M fi n _ (by omega) (pYR_y _ _ (by omega) (show fF M fi j 6 = 0 from d22) q26)) (by rw [pNx_hit _ (by omega) (show fF M fi j 6 = 0 from d22)]; rfl) rfl ?_
            exact ih j (show (j ≤ n) from by omega) (by show j < _; omega)
          · skip
            exact absurd d26 (by decide)
        · skip
          have q26s := q26
          refine k_teq (y := nI a) rfl ?_
          refine k_lo (lo' := [(0, .ref (ga g (37 + fi))), (1, .int (nI a)), (2, .int (nI j))]) rfl ?_
          have ha := pNx_in _ _ _ _ q26
          refine k_if_lt C 38 29 dX1_passYear_26 (by decide) rfl (fun c26 => ?_) (fun d26 => ?_)
          · skip
            have c26 := (nI_ltI (by omega) (by omega)).mp (show nI a < nI 0 from c26)
            exact absurd c26 (by omega)
          · skip
            have d26 := mt (nI_ltI (by omega) (by omega)).mpr (show ¬ (nI a < nI 0) from d26)
            refine k_aload_n C 30 0 rfl rfl dX1_passYear_29 rfl ?_
            refine k_iload_n C 31 1 rfl rfl dX1_passYear_30 rfl ?_
            refine k_iload_n C 32 2 rfl rfl dX1_passYear_31 rfl ?_
            refine k_callVE C 35 (As := [.int (nI a), .int (nI j)]) (st := []) (37 + fi) (lt105_fld hfi) (ce_fld g _ hfi) rfl rfl mwX1_49 vlX1_echoes (qX1_echoes l g (pYp M fi n (M (37 + fi) 3) (j + 1)) hfi (a := a) (b := j) (by omega) (by omega)) mlX1_echoes (by decide) (by decide) rfl rfl (Nat.le_of_ble_eq_true rfl) dX1_passYear_32 rfl ?_
            refine k_teq (y := b2i (pAns (fF M fi a) (fF M fi j))) (by rw [pAns_Yp _ _ _ _ _ _ _ (by omega) (by omega)]) ?_
            refine k_if_neB C 51 38 dX1_passYear_35 (by decide) rfl (fun c35 => ?_) (fun d35 => ?_)
            · skip
              refine k_iload_n C 52 2 rfl rfl dX1_passYear_51 rfl ?_
              refine k_istore_n C 53 [(1, .int (nI j)), (0, .ref (ga g (37 + fi))), (2, .int (nI j))] rfl (by decide) rfl dX1_passYear_52 rfl ?_
              refine k_iinc C 56 (nI j - 1) 2 [(2, .int (nI j - 1)), (1, .int (nI j)), (0, .ref (ga g (37 + fi)))] rfl (iinc_m _) (by decide) rfl dX1_passYear_53 rfl ?_
              refine k_goto C 9 dX1_passYear_56 (by decide) ?_
              refine k_sub [(0, .ref (ga g (37 + fi))), (1, .int (nI j)), (2, .int (nI j - 1))] [2, 1, 0] rfl ?_
              refine k_all (M' := pYp M fi n (M (37 + fi) 3) j) (lo' := [(0, .ref (ga g (37 + fi))), (1, .int (oI (pNx (fF M fi) (n - j) j))), (2, .int (nI j - 1))]) (st' := []) (by exact (pYp_same M fi n _ (by omega) (pYR_t _ _ q26 c35))) (by rw [pNx_hit _ (by omega) (show fF M fi j 6 = 0 from d22)]; rfl) rfl ?_
              exact ih j (show (j ≤ n) from by omega) (by show j < _; omega)
            · skip
              refine k_aload_n C 39 0 rfl rfl dX1_passYear_38 rfl ?_
              refine k_get C 42 flX1_11 (37 + fi) (lt105_fld hfi) (v := .ref (ga g (40 + fi))) (ce_fld g _ hfi) rfl dX1_passYear_39 rfl ?_
              refine k_iload_n C 43 2 rfl rfl dX1_passYear_42 rfl ?_
              refine k_aald C 44 (40 + fi) j 3 (lt105_fa hfi) (ce_fa g _ hfi) rfl (by decide) rfl (by omega) dX1_passYear_43 rfl ?_
              refine k_st (st' := [.ref (ga g (12 * fi + j))]) rfl ?_
              refine k_aload_n C 45 0 rfl rfl dX1_passYear_44 rfl ?_
              refine k_get C 48 flX1_17 (37 + fi) (lt105_fld hfi) (v := .int ((pYp M fi n (M (37 + fi) 3) (j + 1)) (37 + fi) 3)) (ce_fld g _ hfi) rfl dX1_passYear_45 rfl ?_
              refine k_teq (y := M (37 + fi) 3) (by rw [pYp_out _ _ _ _ _ (by omega)]) ?_
              refine k_callVU C 51 (As := [.int (M (37 + fi) 3)]) (st := []) (12 * fi + j) (lt105_fu (fu_lt hfi (by omega))) (ce_fu g _ (fu_lt hfi (by omega))) rfl rfl mwX1_75 vlX2_goUnheard (qX2_goUnheard l g (pYp M fi n (M (37 + fi) 3) (j + 1)) (fu_lt hfi (by omega)) (M (37 + fi) 3) (by rw [pYp_out _ _ _ _ _ (by omega)]; exact d22)) mlX2_goUnheard (by decide) (by decide) rfl rfl (Nat.le_of_ble_eq_true rfl) dX1_passYear_48 rfl ?_
              refine k_iload_n C 52 2 rfl rfl dX1_passYear_51 rfl ?_
              refine k_istore_n C 53 [(1, .int (nI j)), (0, .ref (ga g (37 + fi))), (2, .int (nI j))] rfl (by decide) rfl dX1_passYear_52 rfl ?_
              refine k_iinc C 56 (nI j - 1) 2 [(2, .int (nI j - 1)), (1, .int (nI j)), (0, .ref (ga g (37 + fi)))] rfl (iinc_m _) (by decide) rfl dX1_passYear_53 rfl ?_
              refine k_goto C 9 dX1_passYear_56 (by decide) ?_
              refine k_sub [(0, .ref (ga g (37 + fi))), (1, .int (nI j)), (2, .int (nI j - 1))] [2, 1, 0] rfl ?_
              refine k_all (M' := pYp M fi n (M (37 + fi) 3) j) (lo' := [(0, .ref (ga g (37 + fi))), (1, .int (oI (pNx (fF M fi) (n - j) j))), (2, .int (nI j - 1))]) (st' := []) (by exact pYp_put M fi n _ (by omega) (pYR_f _ _ (by omega) (show fF M fi j 6 = 0 from d22) q26 d35)) (by rw [pNx_hit _ (by omega) (show fF M fi j 6 = 0 from d22)]; rfl) rfl ?_
              exact ih j (show (j ≤ n) from by omega) (by show j < _; omega)
set_option maxHeartbeats 4000000 in
set_option maxRecDepth 20000 in
theorem qX1_passYears (l : Launch) (g : GT) (M : Mem) {fi : Nat} (hfi : fi < 3) {n : Nat} (hn : M (37 + fi) 1 = nI n) (h12 : n ≤ 12) {y : Nat} (hy : y < 2 ^ 31) : CtrU l g yX1_passYears cX1_passYears 3 4 [.ref (ga g (37 + fi)), .int (nI y)] M (pYMs M fi n (M (37 + fi) 3) y) := by
  refine ctrV_of (by decide +kernel) (Nat.le_of_ble_eq_true rfl) ?_
  intro pP eE RR sS mI aG bB mE cD C
  refine k_lo (lo' := [(0, .ref (ga g (37 + fi))), (1, .int (nI y))]) rfl ?_
  refine k_iconst C 1 (v := 0) (by decide) dX1_passYears_0 rfl ?_
  refine k_istore_n C 2 [(2, .int 0), (0, .ref (ga g (37 + fi))), (1, .int (nI y))] rfl (by decide) rfl dX1_passYears_1 rfl ?_
  refine k_sub [(0, .ref (ga g (37 + fi))), (1, .int (nI y)), (2, .int 0)] [1, 2, 0] rfl ?_
  refine k_all (M' := pYMs M fi n (M (37 + fi) 3) 0) (lo' := [(0, .ref (ga g (37 + fi))), (1, .int (nI y)), (2, .int (nI 0))]) (st' := []) (by rfl) (by rfl) rfl ?_
  refine k_loop (σ := Nat) (fun (k : Nat) => (k ≤ y)) (fun (k : Nat) => y - k) (fun (k : Nat) => pYMs M fi n (M (37 + fi) 3) k) (fun (k : Nat) => [(0, .ref (ga g (37 + fi))), (1, .int (nI y)), (2, .int (nI k))]) 0 (show (0 ≤ y) from by exact Nat.zero_le _) ?_
  rintro k hI ih
  have hI : (k ≤ y) := hI
  have hk := hI
  show KW pP l eE RR sS mI aG bB mE cD g 3 _ (pYMs M fi n (M (37 + fi) 3) k) 2 [(0, .ref (ga g (37 + fi))), (1, .int (nI y)), (2, .int (nI k))] []
  refine k_iload_n C 3 2 rfl rfl dX1_passYears_2 rfl ?_
  refine k_iload_n C 4 1 rfl rfl dX1_passYears_3 rfl ?_
  refine k_icmp_ge C 17 7 dX1_passYears_4 (by decide) rfl (fun c4 => ?_) (fun d4 => ?_)
  · skip
    have c4 := (nI_leI (by omega) (by omega)).mp (show nI y ≤ nI k from c4)
    refine k_vret C dX1_passYears_17 ?_
    rw [show k = y by omega]
  · skip
    have d4 := mt (nI_leI (by omega) (by omega)).mpr (show ¬ (nI y ≤ nI k) from d4)
    refine k_aload_n C 8 0 rfl rfl dX1_passYears_7 rfl ?_
    refine k_callVU C 11 (As := []) (st := []) (37 + fi) (lt105_fld hfi) (ce_fld g _ hfi) rfl rfl mwX1_81 vlX1_passYear (qX1_passYear l g (pYMs M fi n (M (37 + fi) 3) k) hfi (n := n) (by rw [pYMs_at hfi _ _ _ _ (by decide)]; exact hn) h12) mlX1_passYear (by decide) (by decide) rfl rfl (Nat.le_of_ble_eq_true rfl) dX1_passYears_8 rfl ?_
    refine k_iinc C 14 (nI (k + 1)) 2 [(2, .int (nI (k + 1))), (0, .ref (ga g (37 + fi))), (1, .int (nI y))] rfl (iinc_p k) (by decide) rfl dX1_passYears_11 rfl ?_
    refine k_goto C 2 dX1_passYears_14 (by decide) ?_
    refine k_sub [(0, .ref (ga g (37 + fi))), (1, .int (nI y)), (2, .int (nI (k + 1)))] [1, 2, 0] rfl ?_
    refine k_all (M' := pYMs M fi n (M (37 + fi) 3) (k + 1)) (lo' := [(0, .ref (ga g (37 + fi))), (1, .int (nI y)), (2, .int (nI (k + 1)))]) (st' := []) (by simp only [pYMs]; rw [pYMs_at hfi _ _ _ _ (by decide)]) (by rfl) rfl ?_
    exact ih (k + 1) (show ((k + 1) ≤ y) from by omega) (by show y - (k + 1) < _; omega)
set_option maxHeartbeats 4000000 in
set_option maxRecDepth 20000 in
theorem qX1_nextDraw (l : Launch) (g : GT) (M : Mem) {fi : Nat} (hfi : fi < 3)  : CtrE l g yX1_nextDraw cX1_nextDraw 1 (some .int) 0 [.ref (ga g (37 + fi))] M (pUs (pNd (M (37 + fi) 4))) (mu M (37 + fi) 4 (pNd (M (37 + fi) 4))) := by
  refine ctrI_of (by decide +kernel) (Nat.le_of_ble_eq_true rfl) ?_
  intro pP eE RR sS mI aG bB mE cD C
  refine k_lo (lo' := [(0, .ref (ga g (37 + fi)))]) rfl ?_
  refine k_aload_n C 1 0 rfl rfl dX1_nextDraw_0 rfl ?_
  refine k_aload_n C 2 0 rfl rfl dX1_nextDraw_1 rfl ?_
  refine k_get C 5 flX1_21 (37 + fi) (lt105_fld hfi) (v := .int ((M) (37 + fi) 4)) (ce_fld g _ hfi) rfl dX1_nextDraw_2 rfl ?_
  refine k_ldc C 7 cwX1_94 dX1_nextDraw_5 rfl ?_
  refine k_imul C 8 dX1_nextDraw_7 rfl ?_
  refine k_sipush C 11 (v := 12345) (by decide) dX1_nextDraw_8 rfl ?_
  refine k_iadd C 12 dX1_nextDraw_11 rfl ?_
  refine k_put C 15 flX1_21 plX1 (37 + fi) (lt105_fld hfi) (ce_fld g _ hfi) (ce_fld g _ hfi) (Nat.le_of_ble_eq_true rfl) rfl rfl rfl dX1_nextDraw_12 rfl ?_
  refine k_aload_n C 16 0 rfl rfl dX1_nextDraw_15 rfl ?_
  refine k_get C 19 flX1_21 (37 + fi) (lt105_fld hfi) (v := .int ((mu M (37 + fi) 4 (((M (37 + fi) 4) * 1103515245) + 12345)) (37 + fi) 4)) (ce_fld g _ hfi) rfl dX1_nextDraw_16 rfl ?_
  refine k_teq (show (mu M (37 + fi) 4 (((M (37 + fi) 4) * 1103515245) + 12345)) (37 + fi) 4 = ((M (37 + fi) 4) * 1103515245) + 12345 by simp [mu_at]) ?_
  refine k_bipush C 21 (v := 8) (by decide) dX1_nextDraw_19 rfl ?_
  refine k_iushr C 22 dX1_nextDraw_21 rfl ?_
  refine k_ret C rfl dX1_nextDraw_22 ?_
  exact ⟨rfl, rfl⟩
set_option maxHeartbeats 4000000 in
set_option maxRecDepth 20000 in
theorem qX1_add (l : Launch) (g : GT) (M : Mem) {fi : Nat} (hfi : fi < 3) {n : Nat} (hn : M (37 + fi) 1 = nI n) (h12 : n < 12) (km lc hand : Int32) : CtrE l g yX1_add cX1_add 5 (some .int) 1 [.ref (ga g (37 + fi)), .int km, .int lc, .int hand] M (nI n) (pAdd M fi n km lc hand) := by
  refine ctrI_of (by decide +kernel) (Nat.le_of_ble_eq_true rfl) ?_
  intro pP eE RR sS mI aG bB mE cD C
  refine k_lo (lo' := [(0, .ref (ga g (37 + fi))), (1, .int km), (2, .int lc), (3, .int hand)]) rfl ?_
  have hx : ¬ (37 + fi = 12 * fi + n) := by omega
  refine k_aload_n C 1 0 rfl rfl dX1_add_0 rfl ?_
  refine k_get C 4 flX1_11 (37 + fi) (lt105_fld hfi) (v := .ref (ga g (40 + fi))) (ce_fld g _ hfi) rfl dX1_add_1 rfl ?_
  refine k_aload_n C 5 0 rfl rfl dX1_add_4 rfl ?_
  refine k_get C 8 flX1_25 (37 + fi) (lt105_fld hfi) (v := .int ((M) (37 + fi) 1)) (ce_fld g _ hfi) rfl dX1_add_5 rfl ?_
  refine k_teq (y := nI n) hn ?_
  refine k_aald C 9 (40 + fi) n 3 (lt105_fa hfi) (ce_fa g _ hfi) rfl (by decide) rfl (by omega) dX1_add_8 rfl ?_
  refine k_st (st' := [.ref (ga g (12 * fi + n))]) rfl ?_
  refine k_astore C 11 [(4, .ref (ga g (12 * fi + n))), (0, .ref (ga g (37 + fi))), (1, .int km), (2, .int lc), (3, .int hand)]  (by decide) rfl dX1_add_9 rfl ?_
  refine k_aload C 13 0  rfl dX1_add_11 rfl ?_
  refine k_iload_n C 14 2 rfl rfl dX1_add_13 rfl ?_
  refine k_callVU C 17 (As := [.int km]) (st := []) (12 * fi + n) (lt105_fu (fu_lt hfi (by omega))) (ce_fu g _ (fu_lt hfi (by omega))) rfl rfl mwX1_28 vlX2_setKindAndNumber (qX2_setKindAndNumber l g M (fu_lt hfi (by omega)) km) mlX2_setKindAndNumber (by decide) (by decide) rfl rfl (Nat.le_of_ble_eq_true rfl) dX1_add_14 rfl ?_
  refine k_aload C 19 0  rfl dX1_add_17 rfl ?_
  refine k_iload_n C 20 3 rfl rfl dX1_add_19 rfl ?_
  refine k_callVU C 23 (As := [.int lc]) (st := []) (12 * fi + n) (lt105_fu (fu_lt hfi (by omega))) (ce_fu g _ (fu_lt hfi (by omega))) rfl rfl mwX1_32 vlX2_setLine (qX2_setLine l g (mu (mu M (12 * fi + n) 0 (km / 10)) (12 * fi + n) 1 (km - km / 10 * 10)) (fu_lt hfi (by omega)) lc) mlX2_setLine (by decide) (by decide) rfl rfl (Nat.le_of_ble_eq_true rfl) dX1_add_20 rfl ?_
  refine k_aload C 25 0  rfl dX1_add_23 rfl ?_
  refine k_iload_n C 26 4 rfl rfl dX1_add_25 rfl ?_
  refine k_put C 29 flX1_35 plX2 (12 * fi + n) (lt105_fu (fu_lt hfi (by omega))) (ce_fu g _ (fu_lt hfi (by omega))) (ce_fu g _ (fu_lt hfi (by omega))) (Nat.le_of_ble_eq_true rfl) rfl rfl rfl dX1_add_26 rfl ?_
  refine k_aload C 31 0  rfl dX1_add_29 rfl ?_
  refine k_iconst C 32 (v := 0) (by decide) dX1_add_31 rfl ?_
  refine k_put C 35 flX1_38 plX2 (12 * fi + n) (lt105_fu (fu_lt hfi (by omega))) (ce_fu g _ (fu_lt hfi (by omega))) (ce_fu g _ (fu_lt hfi (by omega))) (Nat.le_of_ble_eq_true rfl) rfl rfl rfl dX1_add_32 rfl ?_
  refine k_aload C 37 0  rfl dX1_add_35 rfl ?_
  refine k_iconst C 38 (v := 0) (by decide) dX1_add_37 rfl ?_
  refine k_put C 41 flX1_41 plX2 (12 * fi + n) (lt105_fu (fu_lt hfi (by omega))) (ce_fu g _ (fu_lt hfi (by omega))) (ce_fu g _ (fu_lt hfi (by omega))) (Nat.le_of_ble_eq_true rfl) rfl rfl rfl dX1_add_38 rfl ?_
  refine k_aload_n C 42 1 rfl rfl dX1_add_41 rfl ?_
  refine k_dup C 43 rfl dX1_add_42 rfl ?_
  refine k_get C 46 flX1_25 (37 + fi) (lt105_fld hfi) (v := .int ((mu (mu (mu (mu (mu (mu (mu M (12 * fi + n) 0 (km / 10)) (12 * fi + n) 1 (km - km / 10 * 10)) (12 * fi + n) 2 (lc / 10)) (12 * fi + n) 3 (lc - lc / 10 * 10)) (12 * fi + n) 4 hand) (12 * fi + n) 5 0) (12 * fi + n) 6 0) (37 + fi) 1)) (ce_fld g _ hfi) rfl dX1_add_43 rfl ?_
  refine k_teq (show (mu (mu (mu (mu (mu (mu (mu M (12 * fi + n) 0 (km / 10)) (12 * fi + n) 1 (km - km / 10 * 10)) (12 * fi + n) 2 (lc / 10)) (12 * fi + n) 3 (lc - lc / 10 * 10)) (12 * fi + n) 4 hand) (12 * fi + n) 5 0) (12 * fi + n) 6 0) (37 + fi) 1 = M (37 + fi) 1 by simp [mu_at, hx]) ?_
  refine k_teq (y := nI n) hn ?_
  refine k_iconst C 47 (v := 1) (by decide) dX1_add_46 rfl ?_
  refine k_iadd C 48 dX1_add_47 rfl ?_
  refine k_teq (nI_add n 1) ?_
  refine k_put C 51 flX1_25 plX1 (37 + fi) (lt105_fld hfi) (ce_fld g _ hfi) (ce_fld g _ hfi) (Nat.le_of_ble_eq_true rfl) rfl rfl rfl dX1_add_48 rfl ?_
  refine k_aload_n C 52 1 rfl rfl dX1_add_51 rfl ?_
  refine k_get C 55 flX1_25 (37 + fi) (lt105_fld hfi) (v := .int ((mu (mu (mu (mu (mu (mu (mu (mu M (12 * fi + n) 0 (km / 10)) (12 * fi + n) 1 (km - km / 10 * 10)) (12 * fi + n) 2 (lc / 10)) (12 * fi + n) 3 (lc - lc / 10 * 10)) (12 * fi + n) 4 hand) (12 * fi + n) 5 0) (12 * fi + n) 6 0) (37 + fi) 1 (nI (n + 1))) (37 + fi) 1)) (ce_fld g _ hfi) rfl dX1_add_52 rfl ?_
  refine k_teq (show (mu (mu (mu (mu (mu (mu (mu (mu M (12 * fi + n) 0 (km / 10)) (12 * fi + n) 1 (km - km / 10 * 10)) (12 * fi + n) 2 (lc / 10)) (12 * fi + n) 3 (lc - lc / 10 * 10)) (12 * fi + n) 4 hand) (12 * fi + n) 5 0) (12 * fi + n) 6 0) (37 + fi) 1 (nI (n + 1))) (37 + fi) 1 = nI (n + 1) by simp [mu_at, hx]) ?_
  refine k_iconst C 56 (v := 1) (by decide) dX1_add_55 rfl ?_
  refine k_isub C 57 dX1_add_56 rfl ?_
  refine k_ret C rfl dX1_add_57 ?_
  exact ⟨nI_pred n, rfl⟩
