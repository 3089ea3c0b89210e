-- the relation kept
def rS (a k : Nat) : Prop := a < 24 ∨ a = 37 ∨ a = 38 ∨ a = 43 ∨ a = 44 ∨ (47 ≤ a ∧ a ≤ 50 ∧ k = 1) ∨ (52 ≤ a ∧ a ≤ 55) ∨ a = 62 ∨ a = 63 ∨ a = 65 ∨ a = 66 ∨ (a = 78 ∧ k = 1) ∨ a = 79 ∨ (81 ≤ a ∧ a ≤ 89) ∨ (a = 90 ∧ k = 2) ∨ (a = 91 ∧ (k = 3 ∨ k = 19)) ∨ (a = 92 ∧ k < 416) ∨ a = 93 ∨ (95 ≤ a ∧ a ≤ 98) ∨ a = 104
theorem rS_0 {a k : Nat} (h : a < 24) : rS a k := Or.inl h
theorem rS_1 {a k : Nat} (h : a = 37) : rS a k := Or.inr (Or.inl h)
theorem rS_2 {a k : Nat} (h : a = 38) : rS a k := Or.inr (Or.inr (Or.inl h))
theorem rS_3 {a k : Nat} (h : a = 43) : rS a k := Or.inr (Or.inr (Or.inr (Or.inl h)))
theorem rS_4 {a k : Nat} (h : a = 44) : rS a k := Or.inr (Or.inr (Or.inr (Or.inr (Or.inl h))))
theorem rS_5 {a k : Nat} (h : 47 ≤ a ∧ a ≤ 50 ∧ k = 1) : rS a k := Or.inr (Or.inr (Or.inr (Or.inr (Or.inr (Or.inl h)))))
theorem rS_6 {a k : Nat} (h : 52 ≤ a ∧ a ≤ 55) : rS a k := Or.inr (Or.inr (Or.inr (Or.inr (Or.inr (Or.inr (Or.inl h))))))
theorem rS_7 {a k : Nat} (h : a = 62) : rS a k := Or.inr (Or.inr (Or.inr (Or.inr (Or.inr (Or.inr (Or.inr (Or.inl h)))))))
theorem rS_8 {a k : Nat} (h : a = 63) : rS a k := Or.inr (Or.inr (Or.inr (Or.inr (Or.inr (Or.inr (Or.inr (Or.inr (Or.inl h))))))))
theorem rS_9 {a k : Nat} (h : a = 65) : rS a k := Or.inr (Or.inr (Or.inr (Or.inr (Or.inr (Or.inr (Or.inr (Or.inr (Or.inr (Or.inl h)))))))))
theorem rS_10 {a k : Nat} (h : a = 66) : rS a k := Or.inr (Or.inr (Or.inr (Or.inr (Or.inr (Or.inr (Or.inr (Or.inr (Or.inr (Or.inr (Or.inl h))))))))))
theorem rS_11 {a k : Nat} (h : a = 78 ∧ k = 1) : rS a k := Or.inr (Or.inr (Or.inr (Or.inr (Or.inr (Or.inr (Or.inr (Or.inr (Or.inr (Or.inr (Or.inr (Or.inl h)))))))))))
theorem rS_12 {a k : Nat} (h : a = 79) : rS a k := Or.inr (Or.inr (Or.inr (Or.inr (Or.inr (Or.inr (Or.inr (Or.inr (Or.inr (Or.inr (Or.inr (Or.inr (Or.inl h))))))))))))
theorem rS_13 {a k : Nat} (h : 81 ≤ a ∧ a ≤ 89) : rS a k := Or.inr (Or.inr (Or.inr (Or.inr (Or.inr (Or.inr (Or.inr (Or.inr (Or.inr (Or.inr (Or.inr (Or.inr (Or.inr (Or.inl h)))))))))))))
theorem rS_14 {a k : Nat} (h : a = 90 ∧ k = 2) : rS a k := Or.inr (Or.inr (Or.inr (Or.inr (Or.inr (Or.inr (Or.inr (Or.inr (Or.inr (Or.inr (Or.inr (Or.inr (Or.inr (Or.inr (Or.inl h))))))))))))))
theorem rS_15 {a k : Nat} (h : a = 91 ∧ (k = 3 ∨ k = 19)) : rS a k := Or.inr (Or.inr (Or.inr (Or.inr (Or.inr (Or.inr (Or.inr (Or.inr (Or.inr (Or.inr (Or.inr (Or.inr (Or.inr (Or.inr (Or.inr (Or.inl h)))))))))))))))
theorem rS_16 {a k : Nat} (h : a = 92 ∧ k < 416) : rS a k := Or.inr (Or.inr (Or.inr (Or.inr (Or.inr (Or.inr (Or.inr (Or.inr (Or.inr (Or.inr (Or.inr (Or.inr (Or.inr (Or.inr (Or.inr (Or.inr (Or.inl h))))))))))))))))
theorem rS_17 {a k : Nat} (h : a = 93) : rS a k := Or.inr (Or.inr (Or.inr (Or.inr (Or.inr (Or.inr (Or.inr (Or.inr (Or.inr (Or.inr (Or.inr (Or.inr (Or.inr (Or.inr (Or.inr (Or.inr (Or.inr (Or.inl h)))))))))))))))))
theorem rS_18 {a k : Nat} (h : 95 ≤ a ∧ a ≤ 98) : rS a k := Or.inr (Or.inr (Or.inr (Or.inr (Or.inr (Or.inr (Or.inr (Or.inr (Or.inr (Or.inr (Or.inr (Or.inr (Or.inr (Or.inr (Or.inr (Or.inr (Or.inr (Or.inr (Or.inl h))))))))))))))))))
theorem rS_19 {a k : Nat} (h : a = 104) : rS a k := Or.inr (Or.inr (Or.inr (Or.inr (Or.inr (Or.inr (Or.inr (Or.inr (Or.inr (Or.inr (Or.inr (Or.inr (Or.inr (Or.inr (Or.inr (Or.inr (Or.inr (Or.inr (Or.inr (h)))))))))))))))))))
theorem r_37 {w k : Nat} (hw : w < 2) : rS (37 + w) k := by
  rcases (show w = 0 ∨ w = 1 by omega) with rfl | rfl
  · exact rS_1 rfl
  · exact rS_2 rfl
theorem r_43 {w k : Nat} (hw : w < 2) : rS (43 + w) k := by
  rcases (show w = 0 ∨ w = 1 by omega) with rfl | rfl
  · exact rS_3 rfl
  · exact rS_4 rfl
theorem r_62 {w k : Nat} (hw : w < 2) : rS (62 + w) k := by
  rcases (show w = 0 ∨ w = 1 by omega) with rfl | rfl
  · exact rS_7 rfl
  · exact rS_8 rfl
theorem r_65 {w k : Nat} (hw : w < 2) : rS (65 + w) k := by
  rcases (show w = 0 ∨ w = 1 by omega) with rfl | rfl
  · exact rS_9 rfl
  · exact rS_10 rfl
theorem r_92 {w k : Nat} (hw : w < 2) (hk : k < 416) : rS (92 + w) k := by
  rcases (show w = 0 ∨ w = 1 by omega) with rfl | rfl
  · exact rS_16 ⟨rfl, hk⟩
  · exact rS_17 rfl
theorem cFr_rS {w n a k : Nat} (hw : w < 2) (hn : n ≤ 12) (h : cFr w n a k) : rS a k := by
  rcases h with h | ⟨rfl, -⟩ | ⟨rfl, h⟩
  · exact rS_0 (by omega)
  · exact r_37 hw
  · exact r_92 hw (by omega)
theorem cSr_rS {w a k : Nat} (hw : w < 2) (h : cSr w a k) : rS a k := by
  rcases h with ⟨rfl, -⟩ | ⟨rfl, h⟩
  · exact r_37 hw
  · exact r_92 hw (by omega)
theorem cTr_rS {w a k : Nat} (hw : w < 2) (h : cTr w a k) : rS a k := by
  rcases h with ⟨rfl, -⟩ | ⟨rfl, -⟩ | ⟨rfl, h⟩
  · exact r_43 hw
  · exact r_62 hw
  · exact r_92 hw (by omega)
theorem cWr_rS {w a k : Nat} (hw : w < 2) (h : cWr w a k) : rS a k := by
  rcases h with ⟨rfl, -⟩ | ⟨rfl, -⟩ | ⟨rfl, h⟩
  · exact r_43 hw
  · exact r_65 hw
  · exact r_92 hw (by omega)
theorem cLr_rS {w u a k : Nat} (hw : w < 2) (hu : u < 2) (h : cLr w u a k) : rS a k := by
  rcases h with ⟨rfl, h⟩ | ⟨rfl, -⟩ | ⟨rfl, h⟩
  · exact rS_5 ⟨by omega, by omega, h⟩
  · exact rS_6 (by omega)
  · exact r_92 hw (by omega)
theorem cEr_rS {a k : Nat} (h : cEr a k) : rS a k := by
  rcases h with ⟨rfl | rfl, -⟩
  · exact rS_13 (by omega)
  · exact rS_18 (by omega)
theorem cSh_rS {s a k : Nat} (hs : s < 4) (h : cSh s a k) : rS a k := by
  rcases h with ⟨rfl, -⟩ | ⟨rfl, -⟩ | ⟨rfl | rfl, -⟩ | ⟨rfl, -⟩
  · exact rS_13 (by omega)
  · exact rS_13 (by omega)
  · exact rS_18 (by omega)
  · exact rS_18 (by omega)
  · exact rS_18 (by omega)
theorem cTc_rS {a k : Nat} (h : cTc a k) : rS a k := by
  rcases h with ⟨rfl, h⟩ | ⟨rfl, -⟩ | ⟨rfl, h⟩ | ⟨rfl, -⟩
  · exact rS_11 ⟨rfl, h⟩
  · exact rS_12 rfl
  · exact rS_15 ⟨rfl, Or.inr h⟩
  · exact rS_19 rfl
theorem cWo_rS {a k : Nat} (h : cWo 1 a k) : rS a k := by
  rcases h with h | rfl | rfl | ⟨rfl | rfl, h⟩ | rfl | rfl | rfl | rfl | rfl
  · exact rS_0 (by omega)
  · exact rS_2 rfl
  · exact rS_4 rfl
  · exact rS_5 ⟨by omega, by omega, h⟩
  · exact rS_5 ⟨by omega, by omega, h⟩
  · exact rS_6 (by omega)
  · exact rS_6 (by omega)
  · exact rS_8 rfl
  · exact rS_10 rfl
  · exact rS_17 rfl
theorem Fr_at {M : Mem} {n : Nat} (hF : Fr 0 M n) {i : Nat} (hi : i < n) : (∀ j, j < 7 → M i j = M 92 (6 + 7 * i + j)) ∧ frOk (M i) := by
  have h := hF.2.2.2 i hi
  rw [show 12 * 0 + i = i by omega] at h; exact h
theorem Fr_mk {M : Mem} {n : Nat} (h1 : M 37 1 = nI n) (h2 : M 92 2 = nI n) (h3 : n ≤ 12) (h4 : ∀ i, i < n → (∀ j, j < 7 → M i j = M 92 (6 + 7 * i + j)) ∧ frOk (M i)) : Fr 0 M n :=
  ⟨h1, h2, h3, fun i hi => by rw [show 12 * 0 + i = i by omega]; exact h4 i hi⟩
theorem Fr_eq {M : Mem} {n : Nat} (hF : Fr 0 M n) : eqF n (fF M 0) (mF M) := fun i hi j hj => by
  rw [fF0]; exact (Fr_at hF hi).1 j hj
theorem Fr_one {M M2 : Mem} {n f : Nat} (hF : Fr 0 M n) (hf : f < n) (hX : ∀ a k, a ≠ f → ¬ (a = 92 ∧ 6 + 7 * f ≤ k ∧ k < 6 + 7 * f + 7) → M2 a k = M a k) (h1 : ∀ j, j < 7 → M2 f j = M2 92 (6 + 7 * f + j)) (h2 : frOk (M2 f)) : Fr 0 M2 n := by
  have h12 := hF.2.2.1
  refine Fr_mk ((hX 37 1 (by omega) (by omega)).trans hF.1) ((hX 92 2 (by omega) (by omega)).trans hF.2.1) h12 (fun i hi => ?_)
  by_cases e : i = f
  · subst e; exact ⟨h1, h2⟩
  · have q := Fr_at hF hi
    refine ⟨fun j hj => ?_, frOk_cg (fun j hj => hX i j e (by omega)) q.2⟩
    rw [hX i j e (by omega), hX 92 (6 + 7 * i + j) (by omega) (by omega)]; exact q.1 j hj
theorem Rel_same {M M2 : Mem} (hR : Rel M)  (hX : ∀ a k, rS a k → M2 a k = M a k) : Rel M2 := by
  obtain ⟨⟨⟨n, hF⟩, hS, hT, hW, hL0, hL1⟩, hi, hK, hE, hs, hc⟩ := hR
  have hn12 := hF.2.2.1
  exact ⟨⟨⟨n, Fr_cg hF (fun a k q => hX a k (cFr_rS (by decide) hn12 q))⟩, Sr_cg hS (fun a k q => hX a k (cSr_rS (by decide) q)), Tr_cg hT (fun a k q => hX a k (cTr_rS (by decide) q)), Wr_cg hW (fun a k q => hX a k (cWr_rS (by decide) q)), Lr_cg hL0 (fun a k q => hX a k (cLr_rS (by decide) (by decide) q)), Lr_cg hL1 (fun a k q => hX a k (cLr_rS (by decide) (by decide) q))⟩, (by rw [hX 90 2 (rS_14 ⟨rfl, rfl⟩), hX 91 3 (rS_15 ⟨rfl, Or.inl rfl⟩)]; exact hi), fun h => World_cg (hK (by rw [hX 91 3 (rS_15 ⟨rfl, Or.inl rfl⟩)] at h; exact h)) (fun a k q => hX a k (cWo_rS q)), Er_cg hE (fun a k q => hX a k (cEr_rS q)), fun s hs4 => Sh_cg (hs s hs4) (fun a k q => hX a k (cSh_rS hs4 q)), Tc_cg hc (fun a k q => hX a k (cTc_rS q))⟩
theorem Rel_F {M M2 : Mem} {n2 : Nat} (hR : Rel M) (h2 : Fr 0 M2 n2) (hX : ∀ a k, rS a k → ¬ (a < 12) → ¬ (a = 37 ∧ k = 1) → ¬ (a = 92 ∧ (k = 2 ∨ (6 ≤ k ∧ k < 90))) → M2 a k = M a k) : Rel M2 := by
  obtain ⟨⟨⟨n, hF⟩, hS, hT, hW, hL0, hL1⟩, hi, hK, hE, hs, hc⟩ := hR
  have hn12 := hF.2.2.1
  exact ⟨⟨⟨n2, h2⟩, Sr_cg hS (fun a k q => hX a k (cSr_rS (by decide) q) (by unfold cSr at q; omega) (by unfold cSr at q; omega) (by unfold cSr at q; omega)), Tr_cg hT (fun a k q => hX a k (cTr_rS (by decide) q) (by unfold cTr at q; omega) (by unfold cTr at q; omega) (by unfold cTr at q; omega)), Wr_cg hW (fun a k q => hX a k (cWr_rS (by decide) q) (by unfold cWr at q; omega) (by unfold cWr at q; omega) (by unfold cWr at q; omega)), Lr_cg hL0 (fun a k q => hX a k (cLr_rS (by decide) (by decide) q) (by unfold cLr at q; omega) (by unfold cLr at q; omega) (by unfold cLr at q; omega)), Lr_cg hL1 (fun a k q => hX a k (cLr_rS (by decide) (by decide) q) (by unfold cLr at q; omega) (by unfold cLr at q; omega) (by unfold cLr at q; omega))⟩, (by rw [hX 90 2 (rS_14 ⟨rfl, rfl⟩) (by omega) (by omega) (by omega), hX 91 3 (rS_15 ⟨rfl, Or.inl rfl⟩) (by omega) (by omega) (by omega)]; exact hi), fun h => World_cg (hK (by rw [hX 91 3 (rS_15 ⟨rfl, Or.inl rfl⟩) (by omega) (by omega) (by omega)] at h; exact h)) (fun a k q => hX a k (cWo_rS q) (by unfold cWo at q; omega) (by unfold cWo at q; omega) (by unfold cWo at q; omega)), Er_cg hE (fun a k q => hX a k (cEr_rS q) (by unfold cEr at q; omega) (by unfold cEr at q; omega) (by unfold cEr at q; omega)), fun s hs4 => Sh_cg (hs s hs4) (fun a k q => hX a k (cSh_rS hs4 q) (by unfold cSh at q; omega) (by unfold cSh at q; omega) (by unfold cSh at q; omega)), Tc_cg hc (fun a k q => hX a k (cTc_rS q) (by unfold cTc at q; omega) (by unfold cTc at q; omega) (by unfold cTc at q; omega))⟩
theorem Rel_FS {M M2 : Mem} {n2 : Nat} (hR : Rel M) (h2 : Fr 0 M2 n2) (h3 : Sr 0 M2) (hX : ∀ a k, rS a k → ¬ (a < 12) → ¬ (a = 37) → ¬ (a = 92 ∧ k < 90 ∧ k ≠ 4 ∧ k ≠ 5) → M2 a k = M a k) : Rel M2 := by
  obtain ⟨⟨⟨n, hF⟩, hS, hT, hW, hL0, hL1⟩, hi, hK, hE, hs, hc⟩ := hR
  have hn12 := hF.2.2.1
  exact ⟨⟨⟨n2, h2⟩, h3, Tr_cg hT (fun a k q => hX a k (cTr_rS (by decide) q) (by unfold cTr at q; omega) (by unfold cTr at q; omega) (by unfold cTr at q; omega)), Wr_cg hW (fun a k q => hX a k (cWr_rS (by decide) q) (by unfold cWr at q; omega) (by unfold cWr at q; omega) (by unfold cWr at q; omega)), Lr_cg hL0 (fun a k q => hX a k (cLr_rS (by decide) (by decide) q) (by unfold cLr at q; omega) (by unfold cLr at q; omega) (by unfold cLr at q; omega)), Lr_cg hL1 (fun a k q => hX a k (cLr_rS (by decide) (by decide) q) (by unfold cLr at q; omega) (by unfold cLr at q; omega) (by unfold cLr at q; omega))⟩, (by rw [hX 90 2 (rS_14 ⟨rfl, rfl⟩) (by omega) (by omega) (by omega), hX 91 3 (rS_15 ⟨rfl, Or.inl rfl⟩) (by omega) (by omega) (by omega)]; exact hi), fun h => World_cg (hK (by rw [hX 91 3 (rS_15 ⟨rfl, Or.inl rfl⟩) (by omega) (by omega) (by omega)] at h; exact h)) (fun a k q => hX a k (cWo_rS q) (by unfold cWo at q; omega) (by unfold cWo at q; omega) (by unfold cWo at q; omega)), Er_cg hE (fun a k q => hX a k (cEr_rS q) (by unfold cEr at q; omega) (by unfold cEr at q; omega) (by unfold cEr at q; omega)), fun s hs4 => Sh_cg (hs s hs4) (fun a k q => hX a k (cSh_rS hs4 q) (by unfold cSh at q; omega) (by unfold cSh at q; omega) (by unfold cSh at q; omega)), Tc_cg hc (fun a k q => hX a k (cTc_rS q) (by unfold cTc at q; omega) (by unfold cTc at q; omega) (by unfold cTc at q; omega))⟩
theorem Rel_S {M M2 : Mem} (hR : Rel M) (h3 : Sr 0 M2) (hX : ∀ a k, rS a k → ¬ (a = 37 ∧ k ≠ 1) → ¬ (a = 92 ∧ (k = 0 ∨ k = 1 ∨ k = 3)) → M2 a k = M a k) : Rel M2 := by
  obtain ⟨⟨⟨n, hF⟩, hS, hT, hW, hL0, hL1⟩, hi, hK, hE, hs, hc⟩ := hR
  have hn12 := hF.2.2.1
  exact ⟨⟨⟨n, Fr_cg hF (fun a k q => hX a k (cFr_rS (by decide) hn12 q) (by unfold cFr at q; omega) (by unfold cFr at q; omega))⟩, h3, Tr_cg hT (fun a k q => hX a k (cTr_rS (by decide) q) (by unfold cTr at q; omega) (by unfold cTr at q; omega)), Wr_cg hW (fun a k q => hX a k (cWr_rS (by decide) q) (by unfold cWr at q; omega) (by unfold cWr at q; omega)), Lr_cg hL0 (fun a k q => hX a k (cLr_rS (by decide) (by decide) q) (by unfold cLr at q; omega) (by unfold cLr at q; omega)), Lr_cg hL1 (fun a k q => hX a k (cLr_rS (by decide) (by decide) q) (by unfold cLr at q; omega) (by unfold cLr at q; omega))⟩, (by rw [hX 90 2 (rS_14 ⟨rfl, rfl⟩) (by omega) (by omega), hX 91 3 (rS_15 ⟨rfl, Or.inl rfl⟩) (by omega) (by omega)]; exact hi), fun h => World_cg (hK (by rw [hX 91 3 (rS_15 ⟨rfl, Or.inl rfl⟩) (by omega) (by omega)] at h; exact h)) (fun a k q => hX a k (cWo_rS q) (by unfold cWo at q; omega) (by unfold cWo at q; omega)), Er_cg hE (fun a k q => hX a k (cEr_rS q) (by unfold cEr at q; omega) (by unfold cEr at q; omega)), fun s hs4 => Sh_cg (hs s hs4) (fun a k q => hX a k (cSh_rS hs4 q) (by unfold cSh at q; omega) (by unfold cSh at q; omega)), Tc_cg hc (fun a k q => hX a k (cTc_rS q) (by unfold cTc at q; omega) (by unfold cTc at q; omega))⟩
theorem Rel_T {M M2 : Mem} (hR : Rel M) (h3 : Tr 0 M2) (hX : ∀ a k, rS a k → ¬ (a = 43 ∧ k = 3) → ¬ (a = 62) → ¬ (a = 92 ∧ (k = 4 ∨ (90 ≤ k ∧ k < 150))) → M2 a k = M a k) : Rel M2 := by
  obtain ⟨⟨⟨n, hF⟩, hS, hT, hW, hL0, hL1⟩, hi, hK, hE, hs, hc⟩ := hR
  have hn12 := hF.2.2.1
  exact ⟨⟨⟨n, Fr_cg hF (fun a k q => hX a k (cFr_rS (by decide) hn12 q) (by unfold cFr at q; omega) (by unfold cFr at q; omega) (by unfold cFr at q; omega))⟩, Sr_cg hS (fun a k q => hX a k (cSr_rS (by decide) q) (by unfold cSr at q; omega) (by unfold cSr at q; omega) (by unfold cSr at q; omega)), h3, Wr_cg hW (fun a k q => hX a k (cWr_rS (by decide) q) (by unfold cWr at q; omega) (by unfold cWr at q; omega) (by unfold cWr at q; omega)), Lr_cg hL0 (fun a k q => hX a k (cLr_rS (by decide) (by decide) q) (by unfold cLr at q; omega) (by unfold cLr at q; omega) (by unfold cLr at q; omega)), Lr_cg hL1 (fun a k q => hX a k (cLr_rS (by decide) (by decide) q) (by unfold cLr at q; omega) (by unfold cLr at q; omega) (by unfold cLr at q; omega))⟩, (by rw [hX 90 2 (rS_14 ⟨rfl, rfl⟩) (by omega) (by omega) (by omega), hX 91 3 (rS_15 ⟨rfl, Or.inl rfl⟩) (by omega) (by omega) (by omega)]; exact hi), fun h => World_cg (hK (by rw [hX 91 3 (rS_15 ⟨rfl, Or.inl rfl⟩) (by omega) (by omega) (by omega)] at h; exact h)) (fun a k q => hX a k (cWo_rS q) (by unfold cWo at q; omega) (by unfold cWo at q; omega) (by unfold cWo at q; omega)), Er_cg hE (fun a k q => hX a k (cEr_rS q) (by unfold cEr at q; omega) (by unfold cEr at q; omega) (by unfold cEr at q; omega)), fun s hs4 => Sh_cg (hs s hs4) (fun a k q => hX a k (cSh_rS hs4 q) (by unfold cSh at q; omega) (by unfold cSh at q; omega) (by unfold cSh at q; omega)), Tc_cg hc (fun a k q => hX a k (cTc_rS q) (by unfold cTc at q; omega) (by unfold cTc at q; omega) (by unfold cTc at q; omega))⟩
theorem Rel_W {M M2 : Mem} (hR : Rel M) (h3 : Wr 0 M2) (hX : ∀ a k, rS a k → ¬ (a = 43 ∧ k = 5) → ¬ (a = 65) → ¬ (a = 92 ∧ (k = 5 ∨ (150 ≤ k ∧ k < 174))) → M2 a k = M a k) : Rel M2 := by
  obtain ⟨⟨⟨n, hF⟩, hS, hT, hW, hL0, hL1⟩, hi, hK, hE, hs, hc⟩ := hR
  have hn12 := hF.2.2.1
  exact ⟨⟨⟨n, Fr_cg hF (fun a k q => hX a k (cFr_rS (by decide) hn12 q) (by unfold cFr at q; omega) (by unfold cFr at q; omega) (by unfold cFr at q; omega))⟩, Sr_cg hS (fun a k q => hX a k (cSr_rS (by decide) q) (by unfold cSr at q; omega) (by unfold cSr at q; omega) (by unfold cSr at q; omega)), Tr_cg hT (fun a k q => hX a k (cTr_rS (by decide) q) (by unfold cTr at q; omega) (by unfold cTr at q; omega) (by unfold cTr at q; omega)), h3, Lr_cg hL0 (fun a k q => hX a k (cLr_rS (by decide) (by decide) q) (by unfold cLr at q; omega) (by unfold cLr at q; omega) (by unfold cLr at q; omega)), Lr_cg hL1 (fun a k q => hX a k (cLr_rS (by decide) (by decide) q) (by unfold cLr at q; omega) (by unfold cLr at q; omega) (by unfold cLr at q; omega))⟩, (by rw [hX 90 2 (rS_14 ⟨rfl, rfl⟩) (by omega) (by omega) (by omega), hX 91 3 (rS_15 ⟨rfl, Or.inl rfl⟩) (by omega) (by omega) (by omega)]; exact hi), fun h => World_cg (hK (by rw [hX 91 3 (rS_15 ⟨rfl, Or.inl rfl⟩) (by omega) (by omega) (by omega)] at h; exact h)) (fun a k q => hX a k (cWo_rS q) (by unfold cWo at q; omega) (by unfold cWo at q; omega) (by unfold cWo at q; omega)), Er_cg hE (fun a k q => hX a k (cEr_rS q) (by unfold cEr at q; omega) (by unfold cEr at q; omega) (by unfold cEr at q; omega)), fun s hs4 => Sh_cg (hs s hs4) (fun a k q => hX a k (cSh_rS hs4 q) (by unfold cSh at q; omega) (by unfold cSh at q; omega) (by unfold cSh at q; omega)), Tc_cg hc (fun a k q => hX a k (cTc_rS q) (by unfold cTc at q; omega) (by unfold cTc at q; omega) (by unfold cTc at q; omega))⟩
theorem Rel_TL {M M2 : Mem} (hR : Rel M) (h3 : Tr 0 M2) (h4 : Lr 0 M2 0) (h5 : Lr 0 M2 1) (hX : ∀ a k, rS a k → ¬ (a = 43 ∧ k = 3) → ¬ ((a = 47 ∨ a = 48) ∧ k = 1) → ¬ (a = 52 ∨ a = 53) → ¬ (a = 92 ∧ (k = 4 ∨ 174 ≤ k)) → M2 a k = M a k) : Rel M2 := by
  obtain ⟨⟨⟨n, hF⟩, hS, hT, hW, hL0, hL1⟩, hi, hK, hE, hs, hc⟩ := hR
  have hn12 := hF.2.2.1
  exact ⟨⟨⟨n, Fr_cg hF (fun a k q => hX a k (cFr_rS (by decide) hn12 q) (by unfold cFr at q; omega) (by unfold cFr at q; omega) (by unfold cFr at q; omega) (by unfold cFr at q; omega))⟩, Sr_cg hS (fun a k q => hX a k (cSr_rS (by decide) q) (by unfold cSr at q; omega) (by unfold cSr at q; omega) (by unfold cSr at q; omega) (by unfold cSr at q; omega)), h3, Wr_cg hW (fun a k q => hX a k (cWr_rS (by decide) q) (by unfold cWr at q; omega) (by unfold cWr at q; omega) (by unfold cWr at q; omega) (by unfold cWr at q; omega)), h4, h5⟩, (by rw [hX 90 2 (rS_14 ⟨rfl, rfl⟩) (by omega) (by omega) (by omega) (by omega), hX 91 3 (rS_15 ⟨rfl, Or.inl rfl⟩) (by omega) (by omega) (by omega) (by omega)]; exact hi), fun h => World_cg (hK (by rw [hX 91 3 (rS_15 ⟨rfl, Or.inl rfl⟩) (by omega) (by omega) (by omega) (by omega)] at h; exact h)) (fun a k q => hX a k (cWo_rS q) (by unfold cWo at q; omega) (by unfold cWo at q; omega) (by unfold cWo at q; omega) (by unfold cWo at q; omega)), Er_cg hE (fun a k q => hX a k (cEr_rS q) (by unfold cEr at q; omega) (by unfold cEr at q; omega) (by unfold cEr at q; omega) (by unfold cEr at q; omega)), fun s hs4 => Sh_cg (hs s hs4) (fun a k q => hX a k (cSh_rS hs4 q) (by unfold cSh at q; omega) (by unfold cSh at q; omega) (by unfold cSh at q; omega) (by unfold cSh at q; omega)), Tc_cg hc (fun a k q => hX a k (cTc_rS q) (by unfold cTc at q; omega) (by unfold cTc at q; omega) (by unfold cTc at q; omega) (by unfold cTc at q; omega))⟩
theorem Rel_Sh {M M2 : Mem} (hR : Rel M) (h3 : ∀ s, s < 4 → Sh M2 s) (hX : ∀ a k, rS a k → ¬ (81 ≤ a ∧ a ≤ 88) → ¬ (96 ≤ a ∧ a ≤ 98) → M2 a k = M a k) : Rel M2 := by
  obtain ⟨⟨⟨n, hF⟩, hS, hT, hW, hL0, hL1⟩, hi, hK, hE, hs, hc⟩ := hR
  have hn12 := hF.2.2.1
  exact ⟨⟨⟨n, Fr_cg hF (fun a k q => hX a k (cFr_rS (by decide) hn12 q) (by unfold cFr at q; omega) (by unfold cFr at q; omega))⟩, Sr_cg hS (fun a k q => hX a k (cSr_rS (by decide) q) (by unfold cSr at q; omega) (by unfold cSr at q; omega)), Tr_cg hT (fun a k q => hX a k (cTr_rS (by decide) q) (by unfold cTr at q; omega) (by unfold cTr at q; omega)), Wr_cg hW (fun a k q => hX a k (cWr_rS (by decide) q) (by unfold cWr at q; omega) (by unfold cWr at q; omega)), Lr_cg hL0 (fun a k q => hX a k (cLr_rS (by decide) (by decide) q) (by unfold cLr at q; omega) (by unfold cLr at q; omega)), Lr_cg hL1 (fun a k q => hX a k (cLr_rS (by decide) (by decide) q) (by unfold cLr at q; omega) (by unfold cLr at q; omega))⟩, (by rw [hX 90 2 (rS_14 ⟨rfl, rfl⟩) (by omega) (by omega), hX 91 3 (rS_15 ⟨rfl, Or.inl rfl⟩) (by omega) (by omega)]; exact hi), fun h => World_cg (hK (by rw [hX 91 3 (rS_15 ⟨rfl, Or.inl rfl⟩) (by omega) (by omega)] at h; exact h)) (fun a k q => hX a k (cWo_rS q) (by unfold cWo at q; omega) (by unfold cWo at q; omega)), Er_cg hE (fun a k q => hX a k (cEr_rS q) (by unfold cEr at q; omega) (by unfold cEr at q; omega)), h3, Tc_cg hc (fun a k q => hX a k (cTc_rS q) (by unfold cTc at q; omega) (by unfold cTc at q; omega))⟩
theorem Rel_Tc {M M2 : Mem} (hR : Rel M) (h3 : Tc M2) (hX : ∀ a k, rS a k → ¬ (a = 78) → ¬ (a = 79) → ¬ (a = 91 ∧ k = 19) → ¬ (a = 104) → M2 a k = M a k) : Rel M2 := by
  obtain ⟨⟨⟨n, hF⟩, hS, hT, hW, hL0, hL1⟩, hi, hK, hE, hs, hc⟩ := hR
  have hn12 := hF.2.2.1
  exact ⟨⟨⟨n, Fr_cg hF (fun a k q => hX a k (cFr_rS (by decide) hn12 q) (by unfold cFr at q; omega) (by unfold cFr at q; omega) (by unfold cFr at q; omega) (by unfold cFr at q; omega))⟩, Sr_cg hS (fun a k q => hX a k (cSr_rS (by decide) q) (by unfold cSr at q; omega) (by unfold cSr at q; omega) (by unfold cSr at q; omega) (by unfold cSr at q; omega)), Tr_cg hT (fun a k q => hX a k (cTr_rS (by decide) q) (by unfold cTr at q; omega) (by unfold cTr at q; omega) (by unfold cTr at q; omega) (by unfold cTr at q; omega)), Wr_cg hW (fun a k q => hX a k (cWr_rS (by decide) q) (by unfold cWr at q; omega) (by unfold cWr at q; omega) (by unfold cWr at q; omega) (by unfold cWr at q; omega)), Lr_cg hL0 (fun a k q => hX a k (cLr_rS (by decide) (by decide) q) (by unfold cLr at q; omega) (by unfold cLr at q; omega) (by unfold cLr at q; omega) (by unfold cLr at q; omega)), Lr_cg hL1 (fun a k q => hX a k (cLr_rS (by decide) (by decide) q) (by unfold cLr at q; omega) (by unfold cLr at q; omega) (by unfold cLr at q; omega) (by unfold cLr at q; omega))⟩, (by rw [hX 90 2 (rS_14 ⟨rfl, rfl⟩) (by omega) (by omega) (by omega) (by omega), hX 91 3 (rS_15 ⟨rfl, Or.inl rfl⟩) (by omega) (by omega) (by omega) (by omega)]; exact hi), fun h => World_cg (hK (by rw [hX 91 3 (rS_15 ⟨rfl, Or.inl rfl⟩) (by omega) (by omega) (by omega) (by omega)] at h; exact h)) (fun a k q => hX a k (cWo_rS q) (by unfold cWo at q; omega) (by unfold cWo at q; omega) (by unfold cWo at q; omega) (by unfold cWo at q; omega)), Er_cg hE (fun a k q => hX a k (cEr_rS q) (by unfold cEr at q; omega) (by unfold cEr at q; omega) (by unfold cEr at q; omega) (by unfold cEr at q; omega)), fun s hs4 => Sh_cg (hs s hs4) (fun a k q => hX a k (cSh_rS hs4 q) (by unfold cSh at q; omega) (by unfold cSh at q; omega) (by unfold cSh at q; omega) (by unfold cSh at q; omega)), h3⟩
theorem Rel_TcE {M M2 : Mem} (hR : Rel M) (h3 : Tc M2) (h4 : Er M2) (hX : ∀ a k, rS a k → ¬ (a = 78) → ¬ (a = 79) → ¬ (a = 91 ∧ k = 19) → ¬ (a = 104) → ¬ (a = 89) → ¬ (a = 95) → M2 a k = M a k) : Rel M2 := by
  obtain ⟨⟨⟨n, hF⟩, hS, hT, hW, hL0, hL1⟩, hi, hK, hE, hs, hc⟩ := hR
  have hn12 := hF.2.2.1
  exact ⟨⟨⟨n, Fr_cg hF (fun a k q => hX a k (cFr_rS (by decide) hn12 q) (by unfold cFr at q; omega) (by unfold cFr at q; omega) (by unfold cFr at q; omega) (by unfold cFr at q; omega) (by unfold cFr at q; omega) (by unfold cFr at q; omega))⟩, Sr_cg hS (fun a k q => hX a k (cSr_rS (by decide) q) (by unfold cSr at q; omega) (by unfold cSr at q; omega) (by unfold cSr at q; omega) (by unfold cSr at q; omega) (by unfold cSr at q; omega) (by unfold cSr at q; omega)), Tr_cg hT (fun a k q => hX a k (cTr_rS (by decide) q) (by unfold cTr at q; omega) (by unfold cTr at q; omega) (by unfold cTr at q; omega) (by unfold cTr at q; omega) (by unfold cTr at q; omega) (by unfold cTr at q; omega)), Wr_cg hW (fun a k q => hX a k (cWr_rS (by decide) q) (by unfold cWr at q; omega) (by unfold cWr at q; omega) (by unfold cWr at q; omega) (by unfold cWr at q; omega) (by unfold cWr at q; omega) (by unfold cWr at q; omega)), Lr_cg hL0 (fun a k q => hX a k (cLr_rS (by decide) (by decide) q) (by unfold cLr at q; omega) (by unfold cLr at q; omega) (by unfold cLr at q; omega) (by unfold cLr at q; omega) (by unfold cLr at q; omega) (by unfold cLr at q; omega)), Lr_cg hL1 (fun a k q => hX a k (cLr_rS (by decide) (by decide) q) (by unfold cLr at q; omega) (by unfold cLr at q; omega) (by unfold cLr at q; omega) (by unfold cLr at q; omega) (by unfold cLr at q; omega) (by unfold cLr at q; omega))⟩, (by rw [hX 90 2 (rS_14 ⟨rfl, rfl⟩) (by omega) (by omega) (by omega) (by omega) (by omega) (by omega), hX 91 3 (rS_15 ⟨rfl, Or.inl rfl⟩) (by omega) (by omega) (by omega) (by omega) (by omega) (by omega)]; exact hi), fun h => World_cg (hK (by rw [hX 91 3 (rS_15 ⟨rfl, Or.inl rfl⟩) (by omega) (by omega) (by omega) (by omega) (by omega) (by omega)] at h; exact h)) (fun a k q => hX a k (cWo_rS q) (by unfold cWo at q; omega) (by unfold cWo at q; omega) (by unfold cWo at q; omega) (by unfold cWo at q; omega) (by unfold cWo at q; omega) (by unfold cWo at q; omega)), h4, fun s hs4 => Sh_cg (hs s hs4) (fun a k q => hX a k (cSh_rS hs4 q) (by unfold cSh at q; omega) (by unfold cSh at q; omega) (by unfold cSh at q; omega) (by unfold cSh at q; omega) (by unfold cSh at q; omega) (by unfold cSh at q; omega)), h3⟩
theorem Rel_E {M M2 : Mem} (hR : Rel M) (h4 : Er M2) (hX : ∀ a k, rS a k → ¬ (a = 89) → ¬ (a = 95) → M2 a k = M a k) : Rel M2 := by
  obtain ⟨⟨⟨n, hF⟩, hS, hT, hW, hL0, hL1⟩, hi, hK, hE, hs, hc⟩ := hR
  have hn12 := hF.2.2.1
  exact ⟨⟨⟨n, Fr_cg hF (fun a k q => hX a k (cFr_rS (by decide) hn12 q) (by unfold cFr at q; omega) (by unfold cFr at q; omega))⟩, Sr_cg hS (fun a k q => hX a k (cSr_rS (by decide) q) (by unfold cSr at q; omega) (by unfold cSr at q; omega)), Tr_cg hT (fun a k q => hX a k (cTr_rS (by decide) q) (by unfold cTr at q; omega) (by unfold cTr at q; omega)), Wr_cg hW (fun a k q => hX a k (cWr_rS (by decide) q) (by unfold cWr at q; omega) (by unfold cWr at q; omega)), Lr_cg hL0 (fun a k q => hX a k (cLr_rS (by decide) (by decide) q) (by unfold cLr at q; omega) (by unfold cLr at q; omega)), Lr_cg hL1 (fun a k q => hX a k (cLr_rS (by decide) (by decide) q) (by unfold cLr at q; omega) (by unfold cLr at q; omega))⟩, (by rw [hX 90 2 (rS_14 ⟨rfl, rfl⟩) (by omega) (by omega), hX 91 3 (rS_15 ⟨rfl, Or.inl rfl⟩) (by omega) (by omega)]; exact hi), fun h => World_cg (hK (by rw [hX 91 3 (rS_15 ⟨rfl, Or.inl rfl⟩) (by omega) (by omega)] at h; exact h)) (fun a k q => hX a k (cWo_rS q) (by unfold cWo at q; omega) (by unfold cWo at q; omega)), h4, fun s hs4 => Sh_cg (hs s hs4) (fun a k q => hX a k (cSh_rS hs4 q) (by unfold cSh at q; omega) (by unfold cSh at q; omega)), Tc_cg hc (fun a k q => hX a k (cTc_rS q) (by unfold cTc at q; omega) (by unfold cTc at q; omega))⟩
theorem Rel_W0 {M M2 : Mem} (hR : Rel M) (h3 : World 0 M2) (hX : ∀ a k, rS a k → ¬ (cWo 0 a k) → M2 a k = M a k) : Rel M2 := by
  obtain ⟨⟨⟨n, hF⟩, hS, hT, hW, hL0, hL1⟩, hi, hK, hE, hs, hc⟩ := hR
  have hn12 := hF.2.2.1
  exact ⟨h3, (by rw [hX 90 2 (rS_14 ⟨rfl, rfl⟩) (by unfold cWo; omega), hX 91 3 (rS_15 ⟨rfl, Or.inl rfl⟩) (by unfold cWo; omega)]; exact hi), fun h => World_cg (hK (by rw [hX 91 3 (rS_15 ⟨rfl, Or.inl rfl⟩) (by unfold cWo; omega)] at h; exact h)) (fun a k q => hX a k (cWo_rS q) (by unfold cWo at q ⊢; omega)), Er_cg hE (fun a k q => hX a k (cEr_rS q) (by unfold cEr at q; unfold cWo; omega)), fun s hs4 => Sh_cg (hs s hs4) (fun a k q => hX a k (cSh_rS hs4 q) (by unfold cSh at q; unfold cWo; omega)), Tc_cg hc (fun a k q => hX a k (cTc_rS q) (by unfold cTc at q; unfold cWo; omega))⟩
theorem Rel_im {M M2 : Mem} (hR : Rel M) (h4 : M2 90 2 = M2 91 3) (h5 : World 1 M2) (hX : ∀ a k, rS a k → ¬ (cWo 1 a k) → ¬ (a = 90 ∧ k = 2) → ¬ (a = 91 ∧ k = 3) → M2 a k = M a k) : Rel M2 := by
  obtain ⟨⟨⟨n, hF⟩, hS, hT, hW, hL0, hL1⟩, hi, hK, hE, hs, hc⟩ := hR
  have hn12 := hF.2.2.1
  exact ⟨⟨⟨n, Fr_cg hF (fun a k q => hX a k (cFr_rS (by decide) hn12 q) (by unfold cFr at q; unfold cWo; omega) (by unfold cFr at q; omega) (by unfold cFr at q; omega))⟩, Sr_cg hS (fun a k q => hX a k (cSr_rS (by decide) q) (by unfold cSr at q; unfold cWo; omega) (by unfold cSr at q; omega) (by unfold cSr at q; omega)), Tr_cg hT (fun a k q => hX a k (cTr_rS (by decide) q) (by unfold cTr at q; unfold cWo; omega) (by unfold cTr at q; omega) (by unfold cTr at q; omega)), Wr_cg hW (fun a k q => hX a k (cWr_rS (by decide) q) (by unfold cWr at q; unfold cWo; omega) (by unfold cWr at q; omega) (by unfold cWr at q; omega)), Lr_cg hL0 (fun a k q => hX a k (cLr_rS (by decide) (by decide) q) (by unfold cLr at q; unfold cWo; omega) (by unfold cLr at q; omega) (by unfold cLr at q; omega)), Lr_cg hL1 (fun a k q => hX a k (cLr_rS (by decide) (by decide) q) (by unfold cLr at q; unfold cWo; omega) (by unfold cLr at q; omega) (by unfold cLr at q; omega))⟩, h4, fun _ => h5, Er_cg hE (fun a k q => hX a k (cEr_rS q) (by unfold cEr at q; unfold cWo; omega) (by unfold cEr at q; omega) (by unfold cEr at q; omega)), fun s hs4 => Sh_cg (hs s hs4) (fun a k q => hX a k (cSh_rS hs4 q) (by unfold cSh at q; unfold cWo; omega) (by unfold cSh at q; omega) (by unfold cSh at q; omega)), Tc_cg hc (fun a k q => hX a k (cTc_rS q) (by unfold cTc at q; unfold cWo; omega) (by unfold cTc at q; omega) (by unfold cTc at q; omega))⟩
