-- the reference's laws: pure words
def mlawOk (M : Mem) (u n : Nat) (p : Nat → Int32) : Prop := M 92 (174 + 121 * u) = nI n ∧ n ≤ 60 ∧ (∀ k, k < n → actOk (M 92 (174 + 121 * u + 1 + k)) (M 92 (174 + 121 * u + 61 + k)) (p k)) ∧ (0 < n → WF n p)
theorem sign_ne {x : Int32} (h : isSign x) : ¬ x = 1 ∧ ¬ x = 2 ∧ ¬ x = 3 ∧ ¬ 0 ≤ -x ∧ ¬ -3 ≤ -x ∧ ¬ -x = -33 := by
  rcases h with rfl | rfl | rfl | rfl | rfl | rfl | rfl | rfl | rfl | rfl <;> decide
theorem mu_mrow (M : Mem) (b i : Nat) (f : Nat → Int32) (x : Int32) : mu (mrow M b f) b i x = mrow M b (upd f i x) := by
  unfold mu; rw [mrow_mrow, mrow_s]
theorem nm_part {i : Nat} (hi : i < 3) : ¬ 0 ≤ (-1 - nI i : Int32) ∧ -3 ≤ (-1 - nI i : Int32) := by
  rcases (show i = 0 ∨ i = 1 ∨ i = 2 by omega) with rfl | rfl | rfl <;> decide
theorem nm_val {i : Nat} (hi : i < 3) (v : Nat → Int32) : (if (-1 - nI i : Int32) = -1 then v 0 else if (-1 - nI i : Int32) = -3 then v 2 else v 1) = v i := by
  rcases (show i = 0 ∨ i = 1 ∨ i = 2 by omega) with rfl | rfl | rfl
  · rw [if_pos (by decide)]
  · rw [if_neg (by decide), if_neg (by decide)]
  · rw [if_neg (by decide), if_pos (by decide)]

set_option maxHeartbeats 4000000 in
set_option maxRecDepth 20000 in
theorem qX10_twoOf (l : Launch) (g : GT) (M : Mem) (s x y : Int32) (hs : isSign s) : CtrE l g yX10_twoOf cX10_twoOf 3 (some .int) 0 [.int s, .int x, .int y] M (pJoin s x y) M := by
  refine ctrI_of (by decide +kernel) (Nat.le_of_ble_eq_true rfl) ?_
  intro pP eE RR sS mI aG bB mE cD C
  refine k_lo (lo' := [(0, .int s), (1, .int x), (2, .int y)]) rfl ?_
  rcases hs with rfl | rfl | rfl | rfl | rfl | rfl | rfl | rfl | rfl | rfl
  · skip
    refine k_iload_n C 1 0 rfl rfl dX10_twoOf_0 rfl ?_
    refine k_tout C 203 (by decide) dX10_twoOf_1 (by decide) ?_
    refine k_iload_n C 204 1 rfl rfl dX10_twoOf_203 rfl ?_
    refine k_if_ne C 211 207 dX10_twoOf_204 (by decide) rfl (fun c204 => ?_) (fun d204 => ?_)
    · skip
      refine k_iconst C 212 (v := 1) (by decide) dX10_twoOf_211 rfl ?_
      refine k_goto C 216 dX10_twoOf_212 (by decide) ?_
      refine k_ret C rfl dX10_twoOf_216 ?_
      exact ⟨by simp [pJoin, b2i, c204], rfl⟩
    · skip
      refine k_iload_n C 208 2 rfl rfl dX10_twoOf_207 rfl ?_
      refine k_if_eq C 215 211 dX10_twoOf_208 (by decide) rfl (fun c208 => ?_) (fun d208 => ?_)
      · skip
        refine k_iconst C 216 (v := 0) (by decide) dX10_twoOf_215 rfl ?_
        refine k_ret C rfl dX10_twoOf_216 ?_
        exact ⟨by simp [pJoin, b2i, d204, c208], rfl⟩
      · skip
        refine k_iconst C 212 (v := 1) (by decide) dX10_twoOf_211 rfl ?_
        refine k_goto C 216 dX10_twoOf_212 (by decide) ?_
        refine k_ret C rfl dX10_twoOf_216 ?_
        exact ⟨by simp [pJoin, b2i, d204, d208], rfl⟩
  · skip
    refine k_iload_n C 1 0 rfl rfl dX10_twoOf_0 rfl ?_
    refine k_tin C 189 (by decide) (by decide) (by rfl) dX10_twoOf_1 (by decide) ?_
    refine k_iload_n C 190 1 rfl rfl dX10_twoOf_189 rfl ?_
    refine k_if_eq C 201 193 dX10_twoOf_190 (by decide) rfl (fun c190 => ?_) (fun d190 => ?_)
    · skip
      refine k_iconst C 202 (v := 0) (by decide) dX10_twoOf_201 rfl ?_
      refine k_ret C rfl dX10_twoOf_202 ?_
      exact ⟨by simp [pJoin, b2i, c190], rfl⟩
    · skip
      refine k_iload_n C 194 2 rfl rfl dX10_twoOf_193 rfl ?_
      refine k_if_eq C 201 197 dX10_twoOf_194 (by decide) rfl (fun c194 => ?_) (fun d194 => ?_)
      · skip
        refine k_iconst C 202 (v := 0) (by decide) dX10_twoOf_201 rfl ?_
        refine k_ret C rfl dX10_twoOf_202 ?_
        exact ⟨by simp [pJoin, b2i, d190, c194], rfl⟩
      · skip
        refine k_iconst C 198 (v := 1) (by decide) dX10_twoOf_197 rfl ?_
        refine k_goto C 202 dX10_twoOf_198 (by decide) ?_
        refine k_ret C rfl dX10_twoOf_202 ?_
        exact ⟨by simp [pJoin, b2i, d190, d194], rfl⟩
  · skip
    refine k_iload_n C 1 0 rfl rfl dX10_twoOf_0 rfl ?_
    refine k_tin C 156 (by decide) (by decide) (by rfl) dX10_twoOf_1 (by decide) ?_
    refine k_iload_n C 157 1 rfl rfl dX10_twoOf_156 rfl ?_
    refine k_iload_n C 158 2 rfl rfl dX10_twoOf_157 rfl ?_
    refine k_icmp_ge C 165 161 dX10_twoOf_158 (by decide) rfl (fun c158 => ?_) (fun d158 => ?_)
    · skip
      refine k_iconst C 166 (v := 0) (by decide) dX10_twoOf_165 rfl ?_
      refine k_ret C rfl dX10_twoOf_166 ?_
      exact ⟨by simp [pJoin, b2i, c158], rfl⟩
    · skip
      refine k_iconst C 162 (v := 1) (by decide) dX10_twoOf_161 rfl ?_
      refine k_goto C 166 dX10_twoOf_162 (by decide) ?_
      refine k_ret C rfl dX10_twoOf_166 ?_
      exact ⟨by simp [pJoin, b2i, d158], rfl⟩
  · skip
    refine k_iload_n C 1 0 rfl rfl dX10_twoOf_0 rfl ?_
    refine k_tin C 167 (by decide) (by decide) (by rfl) dX10_twoOf_1 (by decide) ?_
    refine k_iload_n C 168 1 rfl rfl dX10_twoOf_167 rfl ?_
    refine k_iload_n C 169 2 rfl rfl dX10_twoOf_168 rfl ?_
    refine k_icmp_ne C 176 172 dX10_twoOf_169 (by decide) rfl (fun c169 => ?_) (fun d169 => ?_)
    · skip
      refine k_iconst C 177 (v := 0) (by decide) dX10_twoOf_176 rfl ?_
      refine k_ret C rfl dX10_twoOf_177 ?_
      exact ⟨by simp [pJoin, b2i, c169], rfl⟩
    · skip
      refine k_iconst C 173 (v := 1) (by decide) dX10_twoOf_172 rfl ?_
      refine k_goto C 177 dX10_twoOf_173 (by decide) ?_
      refine k_ret C rfl dX10_twoOf_177 ?_
      exact ⟨by simp [pJoin, b2i, d169], rfl⟩
  · skip
    refine k_iload_n C 1 0 rfl rfl dX10_twoOf_0 rfl ?_
    refine k_tin C 178 (by decide) (by decide) (by rfl) dX10_twoOf_1 (by decide) ?_
    refine k_iload_n C 179 1 rfl rfl dX10_twoOf_178 rfl ?_
    refine k_iload_n C 180 2 rfl rfl dX10_twoOf_179 rfl ?_
    refine k_icmp_le C 187 183 dX10_twoOf_180 (by decide) rfl (fun c180 => ?_) (fun d180 => ?_)
    · skip
      refine k_iconst C 188 (v := 0) (by decide) dX10_twoOf_187 rfl ?_
      refine k_ret C rfl dX10_twoOf_188 ?_
      exact ⟨by simp [pJoin, b2i, c180], rfl⟩
    · skip
      refine k_iconst C 184 (v := 1) (by decide) dX10_twoOf_183 rfl ?_
      refine k_goto C 188 dX10_twoOf_184 (by decide) ?_
      refine k_ret C rfl dX10_twoOf_188 ?_
      exact ⟨by simp [pJoin, b2i, d180], rfl⟩
  · skip
    refine k_iload_n C 1 0 rfl rfl dX10_twoOf_0 rfl ?_
    refine k_tin C 120 (by decide) (by decide) (by rfl) dX10_twoOf_1 (by decide) ?_
    refine k_iload_n C 121 1 rfl rfl dX10_twoOf_120 rfl ?_
    refine k_iload_n C 122 2 rfl rfl dX10_twoOf_121 rfl ?_
    refine k_iadd C 123 dX10_twoOf_122 rfl ?_
    refine k_ret C rfl dX10_twoOf_123 ?_
    exact ⟨by simp [pJoin, b2i], rfl⟩
  · skip
    refine k_iload_n C 1 0 rfl rfl dX10_twoOf_0 rfl ?_
    refine k_tin C 124 (by decide) (by decide) (by rfl) dX10_twoOf_1 (by decide) ?_
    refine k_iload_n C 125 1 rfl rfl dX10_twoOf_124 rfl ?_
    refine k_iload_n C 126 2 rfl rfl dX10_twoOf_125 rfl ?_
    refine k_isub C 127 dX10_twoOf_126 rfl ?_
    refine k_ret C rfl dX10_twoOf_127 ?_
    exact ⟨by simp [pJoin, b2i], rfl⟩
  · skip
    refine k_iload_n C 1 0 rfl rfl dX10_twoOf_0 rfl ?_
    refine k_tin C 128 (by decide) (by decide) (by rfl) dX10_twoOf_1 (by decide) ?_
    refine k_iload_n C 129 1 rfl rfl dX10_twoOf_128 rfl ?_
    refine k_iload_n C 130 2 rfl rfl dX10_twoOf_129 rfl ?_
    refine k_imul C 131 dX10_twoOf_130 rfl ?_
    refine k_ret C rfl dX10_twoOf_131 ?_
    exact ⟨by simp [pJoin, b2i], rfl⟩
  · skip
    refine k_iload_n C 1 0 rfl rfl dX10_twoOf_0 rfl ?_
    refine k_tin C 132 (by decide) (by decide) (by rfl) dX10_twoOf_1 (by decide) ?_
    refine k_iload_n C 133 2 rfl rfl dX10_twoOf_132 rfl ?_
    refine k_if_ne C 140 136 dX10_twoOf_133 (by decide) rfl (fun c133 => ?_) (fun d133 => ?_)
    · skip
      refine k_iload_n C 141 1 rfl rfl dX10_twoOf_140 rfl ?_
      refine k_iload_n C 142 2 rfl rfl dX10_twoOf_141 rfl ?_
      refine k_idiv C 143 c133 dX10_twoOf_142 rfl ?_
      refine k_ret C rfl dX10_twoOf_143 ?_
      exact ⟨by simp [pJoin, b2i, c133], rfl⟩
    · skip
      refine k_iconst C 137 (v := 0) (by decide) dX10_twoOf_136 rfl ?_
      refine k_goto C 143 dX10_twoOf_137 (by decide) ?_
      refine k_ret C rfl dX10_twoOf_143 ?_
      exact ⟨by simp [pJoin, b2i, d133], rfl⟩
  · skip
    refine k_iload_n C 1 0 rfl rfl dX10_twoOf_0 rfl ?_
    refine k_tin C 144 (by decide) (by decide) (by rfl) dX10_twoOf_1 (by decide) ?_
    refine k_iload_n C 145 2 rfl rfl dX10_twoOf_144 rfl ?_
    refine k_if_ne C 152 148 dX10_twoOf_145 (by decide) rfl (fun c145 => ?_) (fun d145 => ?_)
    · skip
      refine k_iload_n C 153 1 rfl rfl dX10_twoOf_152 rfl ?_
      refine k_iload_n C 154 2 rfl rfl dX10_twoOf_153 rfl ?_
      refine k_irem C 155 c145 dX10_twoOf_154 rfl ?_
      refine k_ret C rfl dX10_twoOf_155 ?_
      exact ⟨by simp [pJoin, b2i, c145], rfl⟩
    · skip
      refine k_iconst C 149 (v := 0) (by decide) dX10_twoOf_148 rfl ?_
      refine k_goto C 155 dX10_twoOf_149 (by decide) ?_
      refine k_ret C rfl dX10_twoOf_155 ?_
      exact ⟨by simp [pJoin, b2i, d145], rfl⟩
set_option maxHeartbeats 4000000 in
set_option maxRecDepth 20000 in
theorem qX10_works (l : Launch) (g : GT) (M : Mem) {q n : Nat} (hq : q + 121 ≤ 416) (hn : M 92 q = nI n) (h60 : n ≤ 60) (p v : Nat → Int32) (hA : ∀ k, k < n → actOk (M 92 (q + 1 + k)) (M 92 (q + 61 + k)) (p k)) (hw : WF n p) (hv : ∀ i, i < 3 → M 101 i = v i) : CtrI l g yX10_works cX10_works 5 (some .int) 1 [.ref (ga g 91), .int (nI q)] M (fun r M1 => r = pVal p n v ∧ ∀ a, a ≠ 102 → M1 a = M a) := by
  refine ctrI_of (by decide +kernel) (Nat.le_of_ble_eq_true rfl) ?_
  intro pP eE RR sS mI aG bB mE cD C
  refine k_lo (lo' := [(0, .ref (ga g 91)), (1, .int (nI q))]) rfl ?_
  refine k_iconst C 1 (v := 0) (by decide) dX10_works_0 rfl ?_
  refine k_istore_n C 2 [(2, .int 0), (0, .ref (ga g 91)), (1, .int (nI q))] rfl (by decide) rfl dX10_works_1 rfl ?_
  refine k_iconst C 3 (v := 0) (by decide) dX10_works_2 rfl ?_
  refine k_istore_n C 4 [(3, .int 0), (2, .int 0), (0, .ref (ga g 91)), (1, .int (nI q))] rfl (by decide) rfl dX10_works_3 rfl ?_
  refine k_sub [(0, .ref (ga g 91)), (1, .int (nI q)), (2, .int 0), (3, .int 0)] [2, 3, 1, 0] rfl ?_
  refine k_all (M' := mrow M 102 (sA p v (M 102) 0)) (lo' := [(0, .ref (ga g 91)), (1, .int (nI q)), (2, .int (nI (hgt p 0))), (3, .int (nI 0))]) (st' := []) (by exact (mrow_id M 102).symm) (by rfl) rfl ?_
  refine k_loop (σ := Nat) (fun (k : Nat) => (k ≤ n)) (fun (k : Nat) => n - k) (fun (k : Nat) => mrow M 102 (sA p v (M 102) k)) (fun (k : Nat) => [(0, .ref (ga g 91)), (1, .int (nI q)), (2, .int (nI (hgt p k))), (3, .int (nI k))]) 0 (show (0 ≤ n) from by exact Nat.zero_le _) ?_
  rintro k hI ih
  have hI : (k ≤ n) := hI
  have hk := hI
  show KW pP l eE RR sS mI aG bB mE cD g 5 _ (mrow M 102 (sA p v (M 102) k)) 4 [(0, .ref (ga g 91)), (1, .int (nI q)), (2, .int (nI (hgt p k))), (3, .int (nI k))] []
  have hle := hgt_le p k
  refine k_iload_n C 5 3 rfl rfl dX10_works_4 rfl ?_
  refine k_aload_n C 6 0 rfl rfl dX10_works_5 rfl ?_
  refine k_get C 9 flX10_9 91 (by decide) (v := .ref (ga g 92)) (ce_91 g _) rfl dX10_works_6 rfl ?_
  refine k_iload_n C 10 1 rfl rfl dX10_works_9 rfl ?_
  refine k_iald C 11 92 q (by decide) (ce_92 g) (by decide) rfl (by omega) dX10_works_10 rfl ?_
  refine k_teq (y := nI n) (by rw [mrow_n _ _ (by decide)]; exact hn) ?_
  refine k_icmp_ge C 155 14 dX10_works_11 (by decide) rfl (fun c11 => ?_) (fun d11 => ?_)
  · skip
    have c11 := (nI_leI (by omega) (by omega)).mp (show nI n ≤ nI k from c11)
    have hkn : k = n := by omega
    refine k_aload_n C 156 0 rfl rfl dX10_works_155 rfl ?_
    refine k_get C 159 flX10_40 91 (by decide) (v := .ref (ga g 102)) (ce_91 g _) rfl dX10_works_156 rfl ?_
    refine k_iconst C 160 (v := 0) (by decide) dX10_works_159 rfl ?_
    refine k_iald C 161 102 0 (by decide) (ce_102 g) (by decide) rfl (by omega) dX10_works_160 rfl ?_
    refine k_ret C rfl dX10_works_161 ?_
    exact ⟨by rw [mrow_s, hkn, pVal]; exact sA_same _ _ _ _ n hw.2 0 (by rw [hw.1]; decide), fun a ha => mrow_n _ _ ha⟩
  · skip
    have d11 := mt (nI_leI (by omega) (by omega)).mpr (show ¬ (nI n ≤ nI k) from d11)
    refine k_aload_n C 15 0 rfl rfl dX10_works_14 rfl ?_
    refine k_get C 18 flX10_9 91 (by decide) (v := .ref (ga g 92)) (ce_91 g _) rfl dX10_works_15 rfl ?_
    refine k_iload_n C 19 1 rfl rfl dX10_works_18 rfl ?_
    refine k_iconst C 20 (v := 1) (by decide) dX10_works_19 rfl ?_
    refine k_iadd C 21 dX10_works_20 rfl ?_
    refine k_teq (nI_add q 1) ?_
    refine k_iload_n C 22 3 rfl rfl dX10_works_21 rfl ?_
    refine k_iadd C 23 dX10_works_22 rfl ?_
    refine k_teq (nI_add (q + 1) k) ?_
    refine k_iald C 24 92 ((q + 1) + k) (by decide) (ce_92 g) (by decide) rfl (by omega) dX10_works_23 rfl ?_
    refine k_teq (y := M 92 (q + 1 + k)) (by rw [mrow_n _ _ (by decide)]) ?_
    rcases hA k (by omega) with ⟨ha, hb, h0⟩ | ⟨ha, i, hi, hb, hpk⟩ | ⟨ha, hpk⟩ | ⟨ha, hpk⟩
    · skip
      refine k_teq (y := 1) ha ?_
      refine k_istore C 26 [(4, .int 1), (0, .ref (ga g 91)), (1, .int (nI q)), (2, .int (nI (hgt p k))), (3, .int (nI k))]  (by decide) rfl dX10_works_24 rfl ?_
      refine k_iload C 28 0  rfl dX10_works_26 rfl ?_
      refine k_iconst C 29 (v := 1) (by decide) dX10_works_28 rfl ?_
      refine k_icmp_eq C 38 32 dX10_works_29 (by decide) rfl (fun c29 => ?_) (fun d29 => ?_)
      · skip
        refine k_aload_n C 39 1 rfl rfl dX10_works_38 rfl ?_
        refine k_get C 42 flX10_40 91 (by decide) (v := .ref (ga g 102)) (ce_91 g _) rfl dX10_works_39 rfl ?_
        refine k_iload_n C 43 3 rfl rfl dX10_works_42 rfl ?_
        refine k_iload C 45 0  rfl dX10_works_43 rfl ?_
        refine k_iconst C 46 (v := 1) (by decide) dX10_works_45 rfl ?_
        refine k_icmp_ne C 63 49 dX10_works_46 (by decide) rfl (fun c46 => ?_) (fun d46 => ?_)
        · skip
          exact absurd c46 (by decide)
        · skip
          refine k_aload_n C 50 1 rfl rfl dX10_works_49 rfl ?_
          refine k_get C 53 flX10_9 91 (by decide) (v := .ref (ga g 92)) (ce_91 g _) rfl dX10_works_50 rfl ?_
          refine k_iload_n C 54 2 rfl rfl dX10_works_53 rfl ?_
          refine k_bipush C 56 (v := 61) (by decide) dX10_works_54 rfl ?_
          refine k_iadd C 57 dX10_works_56 rfl ?_
          refine k_teq (nI_add q 61) ?_
          refine k_iload_n C 58 4 rfl rfl dX10_works_57 rfl ?_
          refine k_iadd C 59 dX10_works_58 rfl ?_
          refine k_teq (nI_add (q + 61) k) ?_
          refine k_iald C 60 92 ((q + 61) + k) (by decide) (ce_92 g) (by decide) rfl (by omega) dX10_works_59 rfl ?_
          refine k_teq (y := p k) (by rw [mrow_n _ _ (by decide)]; exact hb) ?_
          refine k_goto C 79 dX10_works_60 (by decide) ?_
          refine k_iast C 80 102 (hgt p k) (by decide) (ce_102 g) (by decide) rfl (by omega) dX10_works_79 rfl ?_
          refine k_iinc C 83 (nI ((hgt p k) + 1)) 3 [(2, .int (nI ((hgt p k) + 1))), (4, .int 1), (0, .ref (ga g 91)), (1, .int (nI q)), (3, .int (nI k))] rfl (iinc_p (hgt p k)) (by decide) rfl dX10_works_80 rfl ?_
          refine k_goto C 149 dX10_works_83 (by decide) ?_
          refine k_iinc C 152 (nI (k + 1)) 4 [(3, .int (nI (k + 1))), (2, .int (nI ((hgt p k) + 1))), (4, .int 1), (0, .ref (ga g 91)), (1, .int (nI q))] rfl (iinc_p k) (by decide) rfl dX10_works_149 rfl ?_
          refine k_goto C 4 dX10_works_152 (by decide) ?_
          refine k_sub [(0, .ref (ga g 91)), (1, .int (nI q)), (2, .int (nI ((hgt p k) + 1))), (3, .int (nI (k + 1)))] [3, 4, 1, 0] rfl ?_
          refine k_all (M' := mrow M 102 (sA p v (M 102) (k + 1))) (lo' := [(0, .ref (ga g 91)), (1, .int (nI q)), (2, .int (nI (hgt p (k + 1)))), (3, .int (nI (k + 1)))]) (st' := []) (by rw [mu_mrow]; congr 1; simp only [sA, if_pos h0]) (by rw [show hgt p (k + 1) = hgt p k + 1 by simp only [hgt]; rw [if_pos (Int32.le_trans (by decide) h0)]]) rfl ?_
          exact ih (k + 1) (show ((k + 1) ≤ n) from by omega) (by show n - (k + 1) < _; omega)
      · skip
        exact absurd d29 (by decide)
    · skip
      refine k_teq (y := 2) ha ?_
      have hnp := nm_part hi
      refine k_istore C 26 [(4, .int 2), (0, .ref (ga g 91)), (1, .int (nI q)), (2, .int (nI (hgt p k))), (3, .int (nI k))]  (by decide) rfl dX10_works_24 rfl ?_
      refine k_iload C 28 0  rfl dX10_works_26 rfl ?_
      refine k_iconst C 29 (v := 1) (by decide) dX10_works_28 rfl ?_
      refine k_icmp_eq C 38 32 dX10_works_29 (by decide) rfl (fun c29 => ?_) (fun d29 => ?_)
      · skip
        exact absurd c29 (by decide)
      · skip
        refine k_iload C 34 0  rfl dX10_works_32 rfl ?_
        refine k_iconst C 35 (v := 2) (by decide) dX10_works_34 rfl ?_
        refine k_icmp_ne C 86 38 dX10_works_35 (by decide) rfl (fun c35 => ?_) (fun d35 => ?_)
        · skip
          exact absurd c35 (by decide)
        · skip
          refine k_aload_n C 39 1 rfl rfl dX10_works_38 rfl ?_
          refine k_get C 42 flX10_40 91 (by decide) (v := .ref (ga g 102)) (ce_91 g _) rfl dX10_works_39 rfl ?_
          refine k_iload_n C 43 3 rfl rfl dX10_works_42 rfl ?_
          refine k_iload C 45 0  rfl dX10_works_43 rfl ?_
          refine k_iconst C 46 (v := 1) (by decide) dX10_works_45 rfl ?_
          refine k_icmp_ne C 63 49 dX10_works_46 (by decide) rfl (fun c46 => ?_) (fun d46 => ?_)
          · skip
            refine k_aload_n C 64 1 rfl rfl dX10_works_63 rfl ?_
            refine k_get C 67 flX10_37 91 (by decide) (v := .ref (ga g 101)) (ce_91 g _) rfl dX10_works_64 rfl ?_
            refine k_aload_n C 68 1 rfl rfl dX10_works_67 rfl ?_
            refine k_get C 71 flX10_9 91 (by decide) (v := .ref (ga g 92)) (ce_91 g _) rfl dX10_works_68 rfl ?_
            refine k_iload_n C 72 2 rfl rfl dX10_works_71 rfl ?_
            refine k_bipush C 74 (v := 61) (by decide) dX10_works_72 rfl ?_
            refine k_iadd C 75 dX10_works_74 rfl ?_
            refine k_teq (nI_add q 61) ?_
            refine k_iload_n C 76 4 rfl rfl dX10_works_75 rfl ?_
            refine k_iadd C 77 dX10_works_76 rfl ?_
            refine k_teq (nI_add (q + 61) k) ?_
            refine k_iald C 78 92 ((q + 61) + k) (by decide) (ce_92 g) (by decide) rfl (by omega) dX10_works_77 rfl ?_
            refine k_teq (y := nI i) (by rw [mrow_n _ _ (by decide)]; exact hb) ?_
            refine k_iald C 79 101 i (by decide) (ce_101 g) (by decide) rfl (by omega) dX10_works_78 rfl ?_
            refine k_teq (y := v i) (by rw [mrow_n _ _ (by decide)]; exact hv i hi) ?_
            refine k_iast C 80 102 (hgt p k) (by decide) (ce_102 g) (by decide) rfl (by omega) dX10_works_79 rfl ?_
            refine k_iinc C 83 (nI ((hgt p k) + 1)) 3 [(2, .int (nI ((hgt p k) + 1))), (4, .int 2), (0, .ref (ga g 91)), (1, .int (nI q)), (3, .int (nI k))] rfl (iinc_p (hgt p k)) (by decide) rfl dX10_works_80 rfl ?_
            refine k_goto C 149 dX10_works_83 (by decide) ?_
            refine k_iinc C 152 (nI (k + 1)) 4 [(3, .int (nI (k + 1))), (2, .int (nI ((hgt p k) + 1))), (4, .int 2), (0, .ref (ga g 91)), (1, .int (nI q))] rfl (iinc_p k) (by decide) rfl dX10_works_149 rfl ?_
            refine k_goto C 4 dX10_works_152 (by decide) ?_
            refine k_sub [(0, .ref (ga g 91)), (1, .int (nI q)), (2, .int (nI ((hgt p k) + 1))), (3, .int (nI (k + 1)))] [3, 4, 1, 0] rfl ?_
            refine k_all (M' := mrow M 102 (sA p v (M 102) (k + 1))) (lo' := [(0, .ref (ga g 91)), (1, .int (nI q)), (2, .int (nI (hgt p (k + 1)))), (3, .int (nI (k + 1)))]) (st' := []) (by rw [mu_mrow]; congr 1; simp only [sA]; rw [if_neg (by rw [hpk]; exact hnp.1), if_pos (by rw [hpk]; exact hnp.2), hpk, nm_val hi]) (by rw [show hgt p (k + 1) = hgt p k + 1 by simp only [hgt]; rw [if_pos (by rw [hpk]; exact hnp.2)]]) rfl ?_
            exact ih (k + 1) (show ((k + 1) ≤ n) from by omega) (by show n - (k + 1) < _; omega)
          · skip
            exact absurd d46 (by decide)
    · skip
      refine k_teq (y := 3) ha ?_
      obtain ⟨h, hh⟩ : ∃ h, hgt p k = h + 1 := by
        rcases hw.2 k (by omega) with ⟨q2, -⟩ | ⟨-, q2⟩ | ⟨-, -, q2, -⟩
        · rw [hpk] at q2; exact absurd q2 (by decide)
        · exact ⟨hgt p k - 1, by omega⟩
        · exact absurd hpk q2
      refine k_lo (lo' := [(0, .ref (ga g 91)), (1, .int (nI q)), (2, .int (nI (h + 1))), (3, .int (nI k))]) (by rw [hh]) ?_
      refine k_istore C 26 [(4, .int 3), (0, .ref (ga g 91)), (1, .int (nI q)), (2, .int (nI (h + 1))), (3, .int (nI k))]  (by decide) rfl dX10_works_24 rfl ?_
      refine k_iload C 28 0  rfl dX10_works_26 rfl ?_
      refine k_iconst C 29 (v := 1) (by decide) dX10_works_28 rfl ?_
      refine k_icmp_eq C 38 32 dX10_works_29 (by decide) rfl (fun c29 => ?_) (fun d29 => ?_)
      · skip
        exact absurd c29 (by decide)
      · skip
        refine k_iload C 34 0  rfl dX10_works_32 rfl ?_
        refine k_iconst C 35 (v := 2) (by decide) dX10_works_34 rfl ?_
        refine k_icmp_ne C 86 38 dX10_works_35 (by decide) rfl (fun c35 => ?_) (fun d35 => ?_)
        · skip
          refine k_iload C 88 0  rfl dX10_works_86 rfl ?_
          refine k_iconst C 89 (v := 3) (by decide) dX10_works_88 rfl ?_
          refine k_icmp_ne C 119 92 dX10_works_89 (by decide) rfl (fun c89 => ?_) (fun d89 => ?_)
          · skip
            exact absurd c89 (by decide)
          · skip
            refine k_aload_n C 93 1 rfl rfl dX10_works_92 rfl ?_
            refine k_get C 96 flX10_40 91 (by decide) (v := .ref (ga g 102)) (ce_91 g _) rfl dX10_works_93 rfl ?_
            refine k_iload_n C 97 3 rfl rfl dX10_works_96 rfl ?_
            refine k_iconst C 98 (v := 1) (by decide) dX10_works_97 rfl ?_
            refine k_isub C 99 dX10_works_98 rfl ?_
            refine k_teq (y := nI h) (nI_pred h) ?_
            refine k_aload_n C 100 1 rfl rfl dX10_works_99 rfl ?_
            refine k_get C 103 flX10_40 91 (by decide) (v := .ref (ga g 102)) (ce_91 g _) rfl dX10_works_100 rfl ?_
            refine k_iload_n C 104 3 rfl rfl dX10_works_103 rfl ?_
            refine k_iconst C 105 (v := 1) (by decide) dX10_works_104 rfl ?_
            refine k_isub C 106 dX10_works_105 rfl ?_
            refine k_teq (y := nI h) (nI_pred h) ?_
            refine k_iald C 107 102 h (by decide) (ce_102 g) (by decide) rfl (by omega) dX10_works_106 rfl ?_
            refine k_teq (y := (sA p v (M 102) k) h) (by rw [mrow_s]) ?_
            refine k_if_ne C 114 110 dX10_works_107 (by decide) rfl (fun c107 => ?_) (fun d107 => ?_)
            · skip
              refine k_iconst C 115 (v := 0) (by decide) dX10_works_114 rfl ?_
              refine k_iast C 116 102 h (by decide) (ce_102 g) (by decide) rfl (by omega) dX10_works_115 rfl ?_
              refine k_goto C 149 dX10_works_116 (by decide) ?_
              refine k_iinc C 152 (nI (k + 1)) 4 [(3, .int (nI (k + 1))), (4, .int 3), (0, .ref (ga g 91)), (1, .int (nI q)), (2, .int (nI (h + 1)))] rfl (iinc_p k) (by decide) rfl dX10_works_149 rfl ?_
              refine k_goto C 4 dX10_works_152 (by decide) ?_
              have hz : b2i (decide (sA p v (M 102) k h = 0)) = 0 := by simp [b2i, c107]
              refine k_sub [(0, .ref (ga g 91)), (1, .int (nI q)), (2, .int (nI (h + 1))), (3, .int (nI (k + 1)))] [2, 3, 4, 0] rfl ?_
              refine k_all (M' := mrow M 102 (sA p v (M 102) (k + 1))) (lo' := [(0, .ref (ga g 91)), (1, .int (nI q)), (2, .int (nI (hgt p (k + 1)))), (3, .int (nI (k + 1)))]) (st' := []) (by rw [mu_mrow]; congr 1; simp only [sA]; rw [if_neg (by rw [hpk]; decide), if_neg (by rw [hpk]; decide), if_pos hpk, hh, Nat.add_sub_cancel, hz]) (by rw [show hgt p (k + 1) = h + 1 by simp only [hgt]; rw [if_neg (by rw [hpk]; decide), if_pos hpk, hh]]) rfl ?_
              exact ih (k + 1) (show ((k + 1) ≤ n) from by omega) (by show n - (k + 1) < _; omega)
            · skip
              refine k_iconst C 111 (v := 1) (by decide) dX10_works_110 rfl ?_
              refine k_goto C 115 dX10_works_111 (by decide) ?_
              refine k_iast C 116 102 h (by decide) (ce_102 g) (by decide) rfl (by omega) dX10_works_115 rfl ?_
              refine k_goto C 149 dX10_works_116 (by decide) ?_
              refine k_iinc C 152 (nI (k + 1)) 4 [(3, .int (nI (k + 1))), (4, .int 3), (0, .ref (ga g 91)), (1, .int (nI q)), (2, .int (nI (h + 1)))] rfl (iinc_p k) (by decide) rfl dX10_works_149 rfl ?_
              refine k_goto C 4 dX10_works_152 (by decide) ?_
              have hz : b2i (decide (sA p v (M 102) k h = 0)) = 1 := by simp [b2i, d107]
              refine k_sub [(0, .ref (ga g 91)), (1, .int (nI q)), (2, .int (nI (h + 1))), (3, .int (nI (k + 1)))] [2, 3, 4, 0] rfl ?_
              refine k_all (M' := mrow M 102 (sA p v (M 102) (k + 1))) (lo' := [(0, .ref (ga g 91)), (1, .int (nI q)), (2, .int (nI (hgt p (k + 1)))), (3, .int (nI (k + 1)))]) (st' := []) (by rw [mu_mrow]; congr 1; simp only [sA]; rw [if_neg (by rw [hpk]; decide), if_neg (by rw [hpk]; decide), if_pos hpk, hh, Nat.add_sub_cancel, hz]) (by rw [show hgt p (k + 1) = h + 1 by simp only [hgt]; rw [if_neg (by rw [hpk]; decide), if_pos hpk, hh]]) rfl ?_
              exact ih (k + 1) (show ((k + 1) ≤ n) from by omega) (by show n - (k + 1) < _; omega)
        · skip
          exact absurd d35 (by decide)
    · skip
      have hsn := sign_ne ha
      obtain ⟨h, hh⟩ : ∃ h, hgt p k = h + 1 + 1 := by
        rcases hw.2 k (by omega) with ⟨q2, -⟩ | ⟨q2, -⟩ | ⟨-, -, -, q2⟩
        · rw [hpk] at q2; exact absurd q2 hsn.2.2.2.2.1
        · rw [hpk] at q2; exact absurd q2 hsn.2.2.2.2.2
        · exact ⟨hgt p k - 2, by omega⟩
      refine k_lo (lo' := [(0, .ref (ga g 91)), (1, .int (nI q)), (2, .int (nI (h + 1 + 1))), (3, .int (nI k))]) (by rw [hh]) ?_
      refine k_istore C 26 [(4, .int (M 92 (q + 1 + k))), (0, .ref (ga g 91)), (1, .int (nI q)), (2, .int (nI (h + 1 + 1))), (3, .int (nI k))]  (by decide) rfl dX10_works_24 rfl ?_
      refine k_iload C 28 0  rfl dX10_works_26 rfl ?_
      refine k_iconst C 29 (v := 1) (by decide) dX10_works_28 rfl ?_
      refine k_icmp_eq C 38 32 dX10_works_29 (by decide) rfl (fun c29 => ?_) (fun d29 => ?_)
      · skip
        exact absurd c29 hsn.1
      · skip
        refine k_iload C 34 0  rfl dX10_works_32 rfl ?_
        refine k_iconst C 35 (v := 2) (by decide) dX10_works_34 rfl ?_
        refine k_icmp_ne C 86 38 dX10_works_35 (by decide) rfl (fun c35 => ?_) (fun d35 => ?_)
        · skip
          refine k_iload C 88 0  rfl dX10_works_86 rfl ?_
          refine k_iconst C 89 (v := 3) (by decide) dX10_works_88 rfl ?_
          refine k_icmp_ne C 119 92 dX10_works_89 (by decide) rfl (fun c89 => ?_) (fun d89 => ?_)
          · skip
            refine k_iinc C 122 (nI (h + 1)) 3 [(2, .int (nI (h + 1))), (4, .int (M 92 (q + 1 + k))), (0, .ref (ga g 91)), (1, .int (nI q)), (3, .int (nI k))] rfl (iinc_m1 (h + 1)) (by decide) rfl dX10_works_119 rfl ?_
            refine k_aload_n C 123 2 rfl rfl dX10_works_122 rfl ?_
            refine k_get C 126 flX10_40 91 (by decide) (v := .ref (ga g 102)) (ce_91 g _) rfl dX10_works_123 rfl ?_
            refine k_iload_n C 127 0 rfl rfl dX10_works_126 rfl ?_
            refine k_iconst C 128 (v := 1) (by decide) dX10_works_127 rfl ?_
            refine k_isub C 129 dX10_works_128 rfl ?_
            refine k_teq (y := nI h) (nI_pred h) ?_
            refine k_iload C 131 1  rfl dX10_works_129 rfl ?_
            refine k_aload_n C 132 2 rfl rfl dX10_works_131 rfl ?_
            refine k_get C 135 flX10_40 91 (by decide) (v := .ref (ga g 102)) (ce_91 g _) rfl dX10_works_132 rfl ?_
            refine k_iload_n C 136 0 rfl rfl dX10_works_135 rfl ?_
            refine k_iconst C 137 (v := 1) (by decide) dX10_works_136 rfl ?_
            refine k_isub C 138 dX10_works_137 rfl ?_
            refine k_teq (y := nI h) (nI_pred h) ?_
            refine k_iald C 139 102 h (by decide) (ce_102 g) (by decide) rfl (by omega) dX10_works_138 rfl ?_
            refine k_teq (y := (sA p v (M 102) k) h) (by rw [mrow_s]) ?_
            refine k_aload_n C 140 2 rfl rfl dX10_works_139 rfl ?_
            refine k_get C 143 flX10_40 91 (by decide) (v := .ref (ga g 102)) (ce_91 g _) rfl dX10_works_140 rfl ?_
            refine k_iload_n C 144 0 rfl rfl dX10_works_143 rfl ?_
            refine k_iald C 145 102 (h + 1) (by decide) (ce_102 g) (by decide) rfl (by omega) dX10_works_144 rfl ?_
            refine k_teq (y := (sA p v (M 102) k) (h + 1)) (by rw [mrow_s]) ?_
            refine k_callSE C 148 (As := [.int (M 92 (q + 1 + k)), .int ((sA p v (M 102) k) h), .int ((sA p v (M 102) k) (h + 1))]) (st := [.int (nI h), .ref (ga g 102)]) mwX10_170 skX10_twoOf (qX10_twoOf l g (mrow M 102 (sA p v (M 102) k)) (M 92 (q + 1 + k)) ((sA p v (M 102) k) h) ((sA p v (M 102) k) (h + 1)) ha) mlX10_twoOf (by decide) (by decide) rfl rfl (Nat.le_of_ble_eq_true rfl) dX10_works_145 rfl ?_
            refine k_iast C 149 102 h (by decide) (ce_102 g) (by decide) rfl (by omega) dX10_works_148 rfl ?_
            refine k_iinc C 152 (nI (k + 1)) 4 [(3, .int (nI (k + 1))), (2, .int (nI (h + 1))), (4, .int (M 92 (q + 1 + k))), (0, .ref (ga g 91)), (1, .int (nI q))] rfl (iinc_p k) (by decide) rfl dX10_works_149 rfl ?_
            refine k_goto C 4 dX10_works_152 (by decide) ?_
            refine k_sub [(0, .ref (ga g 91)), (1, .int (nI q)), (2, .int (nI (h + 1))), (3, .int (nI (k + 1)))] [3, 4, 1, 0] rfl ?_
            refine k_all (M' := mrow M 102 (sA p v (M 102) (k + 1))) (lo' := [(0, .ref (ga g 91)), (1, .int (nI q)), (2, .int (nI (hgt p (k + 1)))), (3, .int (nI (k + 1)))]) (st' := []) (by rw [mu_mrow]; congr 1; simp only [sA]; rw [if_neg (by rw [hpk]; exact hsn.2.2.2.1), if_neg (by rw [hpk]; exact hsn.2.2.2.2.1), if_neg (by rw [hpk]; exact hsn.2.2.2.2.2), hpk, Int32.neg_neg, hh, show h + 1 + 1 - 2 = h by omega, show h + 1 + 1 - 1 = h + 1 by omega]) (by rw [show hgt p (k + 1) = h + 1 by simp only [hgt]; rw [if_neg (by rw [hpk]; exact hsn.2.2.2.2.1), if_neg (by rw [hpk]; exact hsn.2.2.2.2.2), hh]; rfl]) rfl ?_
            exact ih (k + 1) (show ((k + 1) ≤ n) from by omega) (by show n - (k + 1) < _; omega)
          · skip
            exact absurd d89 hsn.2.2.1
        · skip
          exact absurd d35 hsn.2.1
set_option maxHeartbeats 4000000 in
set_option maxRecDepth 20000 in
theorem qX10_gives (l : Launch) (g : GT) (M : Mem) {u n : Nat} (hu : u < 2) (p : Nat → Int32) (hL : mlawOk M u n p) (a b c : Int32) : CtrI l g yX10_gives cX10_gives 7 (some .int) 2 [.ref (ga g 91), .int (nI u), .int a, .int b, .int c] M (fun r M1 => r = pGive u n p a b c ∧ ∀ q, q ≠ 101 → q ≠ 102 → M1 q = M q) := by
  refine ctrI_of (by decide +kernel) (Nat.le_of_ble_eq_true rfl) ?_
  intro pP eE RR sS mI aG bB mE cD C
  refine k_lo (lo' := [(0, .ref (ga g 91)), (1, .int (nI u)), (2, .int a), (3, .int b), (4, .int c)]) rfl ?_
  have hn60 := hL.2.1
  have hfr : ∀ q, q ≠ 101 → (mu (mu (mu M 101 0 a) 101 1 b) 101 2 c) q = M q := fun q hq => by simp only [mu_n _ _ _ hq]
  refine k_sipush C 3 (v := 174) (by decide) dX10_gives_0 rfl ?_
  refine k_bipush C 5 (v := 121) (by decide) dX10_gives_3 rfl ?_
  refine k_iload_n C 6 1 rfl rfl dX10_gives_5 rfl ?_
  refine k_imul C 7 dX10_gives_6 rfl ?_
  refine k_teq (pk_mul 121 u) ?_
  refine k_iadd C 8 dX10_gives_7 rfl ?_
  refine k_teq (nI_add 174 (121 * u)) ?_
  refine k_istore C 10 [(5, .int (nI (174 + (121 * u)))), (0, .ref (ga g 91)), (1, .int (nI u)), (2, .int a), (3, .int b), (4, .int c)]  (by decide) rfl dX10_gives_8 rfl ?_
  refine k_aload_n C 11 1 rfl rfl dX10_gives_10 rfl ?_
  refine k_get C 14 flX10_37 91 (by decide) (v := .ref (ga g 101)) (ce_91 g _) rfl dX10_gives_11 rfl ?_
  refine k_iconst C 15 (v := 0) (by decide) dX10_gives_14 rfl ?_
  refine k_iload_n C 16 3 rfl rfl dX10_gives_15 rfl ?_
  refine k_iast C 17 101 0 (by decide) (ce_101 g) (by decide) rfl (by omega) dX10_gives_16 rfl ?_
  refine k_aload_n C 18 1 rfl rfl dX10_gives_17 rfl ?_
  refine k_get C 21 flX10_37 91 (by decide) (v := .ref (ga g 101)) (ce_91 g _) rfl dX10_gives_18 rfl ?_
  refine k_iconst C 22 (v := 1) (by decide) dX10_gives_21 rfl ?_
  refine k_iload_n C 23 4 rfl rfl dX10_gives_22 rfl ?_
  refine k_iast C 24 101 1 (by decide) (ce_101 g) (by decide) rfl (by omega) dX10_gives_23 rfl ?_
  refine k_aload_n C 25 1 rfl rfl dX10_gives_24 rfl ?_
  refine k_get C 28 flX10_37 91 (by decide) (v := .ref (ga g 101)) (ce_91 g _) rfl dX10_gives_25 rfl ?_
  refine k_iconst C 29 (v := 2) (by decide) dX10_gives_28 rfl ?_
  refine k_iload C 31 5  rfl dX10_gives_29 rfl ?_
  refine k_iast C 32 101 2 (by decide) (ce_101 g) (by decide) rfl (by omega) dX10_gives_31 rfl ?_
  refine k_aload_n C 33 1 rfl rfl dX10_gives_32 rfl ?_
  refine k_get C 36 flX10_9 91 (by decide) (v := .ref (ga g 92)) (ce_91 g _) rfl dX10_gives_33 rfl ?_
  refine k_iload C 38 0  rfl dX10_gives_36 rfl ?_
  refine k_iald C 39 92 (174 + (121 * u)) (by decide) (ce_92 g) (by decide) rfl (by omega) dX10_gives_38 rfl ?_
  refine k_teq (show (mu (mu (mu M 101 0 a) 101 1 b) 101 2 c) 92 (174 + (121 * u)) = M 92 (174 + (121 * u)) by simp [mu_at]) ?_
  refine k_teq (y := nI n) hL.1 ?_
  refine k_if_le C 51 42 dX10_gives_39 (by decide) rfl (fun c39 => ?_) (fun d39 => ?_)
  · skip
    have c39 := (nI_leI (by omega) (by omega)).mp (show nI n ≤ nI 0 from c39)
    refine k_iload_n C 52 2 rfl rfl dX10_gives_51 rfl ?_
    refine k_if_ne C 61 55 dX10_gives_52 (by decide) rfl (fun c52 => ?_) (fun d52 => ?_)
    · skip
      have c52 := mt (nI_eq (by omega) (by omega)).mpr (show ¬ (nI u = nI 0) from c52)
      refine k_iload_n C 62 3 rfl rfl dX10_gives_61 rfl ?_
      refine k_iload_n C 63 4 rfl rfl dX10_gives_62 rfl ?_
      refine k_imul C 64 dX10_gives_63 rfl ?_
      refine k_istore C 66 [(6, .int (a * b)), (5, .int (nI (174 + (121 * u)))), (0, .ref (ga g 91)), (1, .int (nI u)), (2, .int a), (3, .int b), (4, .int c)]  (by decide) rfl dX10_gives_64 rfl ?_
      refine k_iload_n C 67 3 rfl rfl dX10_gives_66 rfl ?_
      refine k_if_ne C 81 70 dX10_gives_67 (by decide) rfl (fun c67 => ?_) (fun d67 => ?_)
      · skip
        have c67 := mt (nI_eq (by omega) (by omega)).mpr (show ¬ (nI u = nI 0) from c67)
        refine k_iload C 83 0  rfl dX10_gives_81 rfl ?_
        refine k_bipush C 85 (v := (-99)) (by decide) dX10_gives_83 rfl ?_
        refine k_bipush C 87 (v := 99) (by decide) dX10_gives_85 rfl ?_
        refine k_callSE C 90 (As := [.int (a * b), .int (-99), .int 99]) (st := []) mwX10_177 skX10_held (qX10_held l g (mu (mu (mu M 101 0 a) 101 1 b) 101 2 c) (a * b) (-99) 99) mlX10_held (by decide) (by decide) rfl rfl (Nat.le_of_ble_eq_true rfl) dX10_gives_87 rfl ?_
        refine k_ret C rfl dX10_gives_90 ?_
        exact ⟨by unfold pGive; rw [if_neg (show ¬ u = 0 by omega), if_neg (show ¬ 0 < n by omega)], fun q h1 _ => hfr q h1⟩
      · skip
        have d67 := (nI_eq (by omega) (by omega)).mp (show nI u = nI 0 from d67)
        exact absurd d67 (by omega)
    · skip
      have d52 := (nI_eq (by omega) (by omega)).mp (show nI u = nI 0 from d52)
      refine k_iload_n C 56 3 rfl rfl dX10_gives_55 rfl ?_
      refine k_iload_n C 57 4 rfl rfl dX10_gives_56 rfl ?_
      refine k_iadd C 58 dX10_gives_57 rfl ?_
      refine k_goto C 64 dX10_gives_58 (by decide) ?_
      refine k_istore C 66 [(6, .int (a + b)), (5, .int (nI (174 + (121 * u)))), (0, .ref (ga g 91)), (1, .int (nI u)), (2, .int a), (3, .int b), (4, .int c)]  (by decide) rfl dX10_gives_64 rfl ?_
      refine k_iload_n C 67 3 rfl rfl dX10_gives_66 rfl ?_
      refine k_if_ne C 81 70 dX10_gives_67 (by decide) rfl (fun c67 => ?_) (fun d67 => ?_)
      · skip
        have c67 := mt (nI_eq (by omega) (by omega)).mpr (show ¬ (nI u = nI 0) from c67)
        exact absurd c67 (by omega)
      · skip
        have d67 := (nI_eq (by omega) (by omega)).mp (show nI u = nI 0 from d67)
        refine k_iload C 72 0  rfl dX10_gives_70 rfl ?_
        refine k_iconst C 73 (v := 1) (by decide) dX10_gives_72 rfl ?_
        refine k_bipush C 75 (v := 99) (by decide) dX10_gives_73 rfl ?_
        refine k_callSE C 78 (As := [.int (a + b), .int 1, .int 99]) (st := []) mwX10_177 skX10_held (qX10_held l g (mu (mu (mu M 101 0 a) 101 1 b) 101 2 c) (a + b) 1 99) mlX10_held (by decide) (by decide) rfl rfl (Nat.le_of_ble_eq_true rfl) dX10_gives_75 rfl ?_
        refine k_goto C 90 dX10_gives_78 (by decide) ?_
        refine k_ret C rfl dX10_gives_90 ?_
        exact ⟨by unfold pGive; rw [if_pos (show u = 0 by omega), if_neg (show ¬ 0 < n by omega)], fun q h1 _ => hfr q h1⟩
  · skip
    have d39 := mt (nI_leI (by omega) (by omega)).mpr (show ¬ (nI n ≤ nI 0) from d39)
    refine k_aload_n C 43 1 rfl rfl dX10_gives_42 rfl ?_
    refine k_iload C 45 0  rfl dX10_gives_43 rfl ?_
    refine k_callVI C 48 (As := [.int (nI (174 + (121 * u)))]) (st := []) 91 (by decide) (ce_91 g _) rfl rfl mwX10_174 vlX10_works (qX10_works l g (mu (mu (mu M 101 0 a) 101 1 b) 101 2 c) (q := 174 + 121 * u) (n := n) (by omega) (by rw [hfr _ (by decide)]; exact hL.1) hL.2.1 p (vv a b c) (by rw [hfr _ (by decide)]; exact hL.2.2.1) (hL.2.2.2 (by omega)) (fun i hi => by rcases (show i = 0 ∨ i = 1 ∨ i = 2 by omega) with rfl | rfl | rfl <;> simp [mu_at, vv])) mlX10_works (by decide) (by decide) rfl rfl (Nat.le_of_ble_eq_true rfl) dX10_gives_45 rfl (fun r M1 h1 => ?_)
    obtain ⟨hr, hs1⟩ := h1
    subst hr
    refine k_goto C 64 dX10_gives_48 (by decide) ?_
    refine k_istore C 66 [(6, .int (pVal p n (vv a b c))), (5, .int (nI (174 + (121 * u)))), (0, .ref (ga g 91)), (1, .int (nI u)), (2, .int a), (3, .int b), (4, .int c)]  (by decide) rfl dX10_gives_64 rfl ?_
    refine k_iload_n C 67 3 rfl rfl dX10_gives_66 rfl ?_
    refine k_if_ne C 81 70 dX10_gives_67 (by decide) rfl (fun c67 => ?_) (fun d67 => ?_)
    · skip
      have c67 := mt (nI_eq (by omega) (by omega)).mpr (show ¬ (nI u = nI 0) from c67)
      refine k_iload C 83 0  rfl dX10_gives_81 rfl ?_
      refine k_bipush C 85 (v := (-99)) (by decide) dX10_gives_83 rfl ?_
      refine k_bipush C 87 (v := 99) (by decide) dX10_gives_85 rfl ?_
      refine k_callSE C 90 (As := [.int (pVal p n (vv a b c)), .int (-99), .int 99]) (st := []) mwX10_177 skX10_held (qX10_held l g M1 (pVal p n (vv a b c)) (-99) 99) mlX10_held (by decide) (by decide) rfl rfl (Nat.le_of_ble_eq_true rfl) dX10_gives_87 rfl ?_
      refine k_ret C rfl dX10_gives_90 ?_
      exact ⟨by unfold pGive; rw [if_neg (show ¬ u = 0 by omega), if_pos (show 0 < n by omega)], fun q h1 h2 => by rw [hs1 q h2]; exact hfr q h1⟩
    · skip
      have d67 := (nI_eq (by omega) (by omega)).mp (show nI u = nI 0 from d67)
      refine k_iload C 72 0  rfl dX10_gives_70 rfl ?_
      refine k_iconst C 73 (v := 1) (by decide) dX10_gives_72 rfl ?_
      refine k_bipush C 75 (v := 99) (by decide) dX10_gives_73 rfl ?_
      refine k_callSE C 78 (As := [.int (pVal p n (vv a b c)), .int 1, .int 99]) (st := []) mwX10_177 skX10_held (qX10_held l g M1 (pVal p n (vv a b c)) 1 99) mlX10_held (by decide) (by decide) rfl rfl (Nat.le_of_ble_eq_true rfl) dX10_gives_75 rfl ?_
      refine k_goto C 90 dX10_gives_78 (by decide) ?_
      refine k_ret C rfl dX10_gives_90 ?_
      exact ⟨by unfold pGive; rw [if_pos (show u = 0 by omega), if_pos (show 0 < n by omega)], fun q h1 h2 => by rw [hs1 q h2]; exact hfr q h1⟩
set_option maxHeartbeats 4000000 in
set_option maxRecDepth 20000 in
theorem qX10_senseOf (l : Launch) (g : GT) (M : Mem) {n : Nat} (p : Nat → Int32) (hL : mlawOk M 1 n p) {f : Nat} (hf : f < 12) : CtrI l g yX10_senseOf cX10_senseOf 2 (some .int) 3 [.ref (ga g 91), .int (nI f)] M (fun r M1 => r = pGive 1 n p (mF M f 2) (mF M f 3) (pDepth (mF M f)) ∧ ∀ q, q ≠ 101 → q ≠ 102 → M1 q = M q) := by
  refine ctrI_of (by decide +kernel) (Nat.le_of_ble_eq_true rfl) ?_
  intro pP eE RR sS mI aG bB mE cD C
  refine k_lo (lo' := [(0, .ref (ga g 91)), (1, .int (nI f))]) rfl ?_
  refine k_aload_n C 1 0 rfl rfl dX10_senseOf_0 rfl ?_
  refine k_iconst C 2 (v := 1) (by decide) dX10_senseOf_1 rfl ?_
  refine k_aload_n C 3 0 rfl rfl dX10_senseOf_2 rfl ?_
  refine k_iload_n C 4 1 rfl rfl dX10_senseOf_3 rfl ?_
  refine k_iconst C 5 (v := 2) (by decide) dX10_senseOf_4 rfl ?_
  refine k_callVE C 8 (As := [.int (nI f), .int 2]) (st := [.int 1, .ref (ga g 91)]) 91 (by decide) (ce_91 g _) rfl rfl mwX10_58 vlX10_of (qX10_of l g M (f := f) (w := 2) (by omega) (by omega)) mlX10_of (by decide) (by decide) rfl rfl (Nat.le_of_ble_eq_true rfl) dX10_senseOf_5 rfl ?_
  refine k_aload_n C 9 0 rfl rfl dX10_senseOf_8 rfl ?_
  refine k_iload_n C 10 1 rfl rfl dX10_senseOf_9 rfl ?_
  refine k_iconst C 11 (v := 3) (by decide) dX10_senseOf_10 rfl ?_
  refine k_callVE C 14 (As := [.int (nI f), .int 3]) (st := [.int (mF M f 2), .int 1, .ref (ga g 91)]) 91 (by decide) (ce_91 g _) rfl rfl mwX10_58 vlX10_of (qX10_of l g M (f := f) (w := 3) (by omega) (by omega)) mlX10_of (by decide) (by decide) rfl rfl (Nat.le_of_ble_eq_true rfl) dX10_senseOf_11 rfl ?_
  refine k_aload_n C 15 0 rfl rfl dX10_senseOf_14 rfl ?_
  refine k_iload_n C 16 1 rfl rfl dX10_senseOf_15 rfl ?_
  refine k_callVE C 19 (As := [.int (nI f)]) (st := [.int (mF M f 3), .int (mF M f 2), .int 1, .ref (ga g 91)]) 91 (by decide) (ce_91 g _) rfl rfl mwX10_77 vlX10_depthOf (qX10_depthOf l g M (f := f) (by omega)) mlX10_depthOf (by decide) (by decide) rfl rfl (Nat.le_of_ble_eq_true rfl) dX10_senseOf_16 rfl ?_
  refine k_callVI C 22 (As := [.int 1, .int (mF M f 2), .int (mF M f 3), .int (pDepth (mF M f))]) (st := []) 91 (by decide) (ce_91 g _) rfl rfl mwX10_80 vlX10_gives (qX10_gives l g M (u := 1) (n := n) (by omega) p hL (mF M f 2) (mF M f 3) (pDepth (mF M f))) mlX10_gives (by decide) (by decide) rfl rfl (Nat.le_of_ble_eq_true rfl) dX10_senseOf_19 rfl (fun r1 M1 h1 => ?_)
  obtain ⟨hr1, hs1⟩ := h1
  refine k_ret C rfl dX10_senseOf_22 ?_
  exact ⟨hr1, hs1⟩
