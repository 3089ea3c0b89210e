-- small helpers of the walks
theorem lt105_fld {i : Nat} (h : i < 3) : 37 + i < 105 := by omega
theorem lt105_fa {i : Nat} (h : i < 3) : 40 + i < 105 := by omega
theorem lt105_wld {i : Nat} (h : i < 2) : 43 + i < 105 := by omega
theorem lt105_la {i : Nat} (h : i < 2) : 45 + i < 105 := by omega
theorem lt105_law {i : Nat} (h : i < 5) : 47 + i < 105 := by omega
theorem lt105_lp {i : Nat} (h : i < 5) : 52 + i < 105 := by omega
theorem lt105_ls {i : Nat} (h : i < 5) : 57 + i < 105 := by omega
theorem lt105_tp {i : Nat} (h : i < 2) : 62 + i < 105 := by omega
theorem lt105_wt {i : Nat} (h : i < 2) : 65 + i < 105 := by omega
theorem lt105_sh {i : Nat} (h : i < 4) : 81 + i < 105 := by omega
theorem lt105_sn {i : Nat} (h : i < 4) : 85 + i < 105 := by omega
theorem lt105_sc {t n : Nat} (h : scl t n) : 69 + t < 105 := by rcases h with ⟨h, _⟩ | ⟨h, _⟩ <;> omega
theorem lt105_sst {t n : Nat} (h : scl t n) : 71 + t < 105 := by rcases h with ⟨h, _⟩ | ⟨h, _⟩ <;> omega
theorem lt105_sco {t n : Nat} (h : scl t n) : 73 + t < 105 := by rcases h with ⟨h, _⟩ | ⟨h, _⟩ <;> omega
theorem lt105_sse {t n : Nat} (h : scl t n) : 75 + t < 105 := by rcases h with ⟨h, _⟩ | ⟨h, _⟩ <;> omega
theorem lt105_fu {k : Nat} (h : k < 37) : k < 105 := by omega
theorem lt23 {w : Nat} (h : w < 2) : w < 3 := by omega
theorem fu_lt {f i : Nat} (h : f < 3) (hi : i < 12) : 12 * f + i < 37 := by omega
theorem la_lt {w i : Nat} (h : w < 2) (hi : i < 2) : 2 * w + i < 5 := by omega
theorem i_ne {x : Int32} {k : Int} {v : Int32} (h : ¬ x = v) (hv : v.toInt = k) : x.toInt ≠ k := fun e => h (Int32.toInt_inj.mp (e.trans hv.symm))
theorem b2i_0 (b : Bool) : (b2i b = 0) = (b = false) := by cases b <;> simp [b2i]
theorem b2i_1 (b : Bool) : (b2i b = 1) = (b = true) := by cases b <;> simp [b2i]
theorem b2i_ite (c : Prop) [Decidable c] : (if c then (1 : Int32) else 0) = b2i (decide c) := by by_cases h : c <;> simp [b2i, h]
theorem nar_01 {x : Int32} (h : x = 0 ∨ x = 1) : narrow .boolean (.int x) = .int x := by rcases h with h | h <;> rw [h] <;> rfl
theorem fit_01 {x : Int32} (h : x = 0 ∨ x = 1) : fits .boolean (.int x) = true := by rcases h with h | h <;> rw [h] <;> rfl
theorem fit_b2i (b : Bool) : fits .boolean (.int (b2i b)) = true := by cases b <;> rfl
theorem b2i_pos {b : Bool} (h : b = true) : (1 : Int32) = b2i b := by rw [h]; rfl
theorem b2i_neg {b : Bool} (h : b = false) : (0 : Int32) = b2i b := by rw [h]; rfl
theorem b2i_inj {a b : Bool} (h : b2i a = b2i b) : a = b := by cases a <;> cases b <;> simp_all [b2i]
section KX
variable {p : Program} {l : Launch} {e : Env} {R : Room} {s : State} {m : MethodId} {args : Array Value} {below : List Frame} {meth : Method} {c : Code} {g : GT} {own : String} {cc : ByteArray} {nL : Nat} {rt : Option FieldType} {Q : State → Prop} {M : Mem} {pc : Nat} {lo : List (Nat × Value)} {st : List Value} {d : Nat}
theorem k_loop {σ : Type} (I : σ → Prop) (μ : σ → Nat) (Mf : σ → Mem) (lof : σ → List (Nat × Value)) (x0 : σ) (h0 : I x0)
    (step : ∀ x : σ, I x → (∀ y : σ, I y → μ y < μ x → KW p l e R s m args below meth c g nL Q (Mf y) pc (lof y) st) → KW p l e R s m args below meth c g nL Q (Mf x) pc (lof x) st) :
    KW p l e R s m args below meth c g nL Q (Mf x0) pc (lof x0) st := by
  have key : ∀ (n : Nat) (x : σ), μ x < n → I x → KW p l e R s m args below meth c g nL Q (Mf x) pc (lof x) st := by
    intro n
    induction n with
    | zero => intro x h; exact absurd h (Nat.not_lt_zero _)
    | succ n ih => intro x h hx; exact step x hx (fun y hy hlt => ih y (by omega) hy)
  exact key _ x0 (Nat.lt_succ_self _) h0
theorem k_join {σ : Type} (I : σ → Prop) (Mf : σ → Mem) (lof : σ → List (Nat × Value)) (stf : σ → List Value) (pcj : Nat)
    (h : ∀ x : σ, I x → KW p l e R s m args below meth c g nL Q (Mf x) pcj (lof x) (stf x))
    (k : (∀ x : σ, I x → KW p l e R s m args below meth c g nL Q (Mf x) pcj (lof x) (stf x)) → KW p l e R s m args below meth c g nL Q M pc lo st) : KW p l e R s m args below meth c g nL Q M pc lo st := k h
theorem k_callVE (C : Cx p R s m args meth c g own cc nL rt d) (q : Nat) {y : MethodName} {cc0 : ByteArray} {nL0 d0 n idx : Nat} {ret0 : Option FieldType} {v : Int32} {M1 : Mem} (As : List Value) {sti : List Value} (k0 : Nat) {ci : Nat} {fs : List Value} {qc : vw_C} (hk : k0 < 105) (he : cE g k0 (M k0) = .inr (ci, fs)) (hc : vwCl[ci]? = some qc) (hcn : qc.1 = y.cls) (hlink : Cond.methodLink own idx y ∈ wA) (hv0 : VLk y) (hM : CtrE l g y cc0 nL0 ret0 d0 (.ref (ga g k0) :: As) M v M1) (hm : MLk y cc0 nL0 ret0 n) (hd0 : d0 < d) (hnL : nL0 ≤ 21) (hA : As.length = n) (hsti : sti = As.reverse ++ .ref (ga g k0) :: st) (hr : (st.map fun v => v.category).sum ≤ 8) (hd : decode cc pc = .ok (.invokevirtual idx, 3)) (hq : pc + 3 = q) (k : KW p l e R s m args below meth c g nL Q M1 q lo (.int v :: st)) : KW p l e R s m args below meth c g nL Q M pc lo sti :=
  k_callVI C q k0 hk he hc hcn hlink hv0 hM hm hd0 hnL hA hsti hr hd hq (fun r M2 h => by obtain ⟨h1, h2⟩ := h; subst h1; subst h2; exact k)
theorem k_callVU (C : Cx p R s m args meth c g own cc nL rt d) (q : Nat) {y : MethodName} {cc0 : ByteArray} {nL0 d0 n idx : Nat}  {M1 : Mem} (As : List Value) {sti : List Value} (k0 : Nat) {ci : Nat} {fs : List Value} {qc : vw_C} (hk : k0 < 105) (he : cE g k0 (M k0) = .inr (ci, fs)) (hc : vwCl[ci]? = some qc) (hcn : qc.1 = y.cls) (hlink : Cond.methodLink own idx y ∈ wA) (hv0 : VLk y) (hM : CtrU l g y cc0 nL0 d0 (.ref (ga g k0) :: As) M M1) (hm : MLk y cc0 nL0 none n) (hd0 : d0 < d) (hnL : nL0 ≤ 21) (hA : As.length = n) (hsti : sti = As.reverse ++ .ref (ga g k0) :: st) (hr : (st.map fun v => v.category).sum ≤ 8) (hd : decode cc pc = .ok (.invokevirtual idx, 3)) (hq : pc + 3 = q) (k : KW p l e R s m args below meth c g nL Q M1 q lo st) : KW p l e R s m args below meth c g nL Q M pc lo sti :=
  k_callVV C q k0 hk he hc hcn hlink hv0 hM hm hd0 hnL hA hsti hr hd hq (fun M2 h => by have h2 : M2 = M1 := h; subst h2; exact k)
theorem k_callSE (C : Cx p R s m args meth c g own cc nL rt d) (q : Nat) {y : MethodName} {cc0 : ByteArray} {nL0 d0 n idx : Nat} {ret0 : Option FieldType} {v : Int32} {M1 : Mem} (As : List Value) {sti : List Value} (hlink : Cond.methodLink own idx y ∈ wA) (hs0 : Cond.static y ∈ wA) (hM : CtrE l g y cc0 nL0 ret0 d0 As M v M1) (hm : MLk y cc0 nL0 ret0 n) (hd0 : d0 < d) (hnL : nL0 ≤ 21) (hA : As.length = n) (hsti : sti = As.reverse ++ st) (hr : (st.map fun v => v.category).sum ≤ 8) (hd : decode cc pc = .ok (.invokestatic idx, 3)) (hq : pc + 3 = q) (k : KW p l e R s m args below meth c g nL Q M1 q lo (.int v :: st)) : KW p l e R s m args below meth c g nL Q M pc lo sti :=
  k_callSI C q hlink hs0 hM hm hd0 hnL hA hsti hr hd hq (fun r M2 h => by obtain ⟨h1, h2⟩ := h; subst h1; subst h2; exact k)
theorem k_callSU (C : Cx p R s m args meth c g own cc nL rt d) (q : Nat) {y : MethodName} {cc0 : ByteArray} {nL0 d0 n idx : Nat}  {M1 : Mem} (As : List Value) {sti : List Value} (hlink : Cond.methodLink own idx y ∈ wA) (hs0 : Cond.static y ∈ wA) (hM : CtrU l g y cc0 nL0 d0 As M M1) (hm : MLk y cc0 nL0 none n) (hd0 : d0 < d) (hnL : nL0 ≤ 21) (hA : As.length = n) (hsti : sti = As.reverse ++ st) (hr : (st.map fun v => v.category).sum ≤ 8) (hd : decode cc pc = .ok (.invokestatic idx, 3)) (hq : pc + 3 = q) (k : KW p l e R s m args below meth c g nL Q M1 q lo st) : KW p l e R s m args below meth c g nL Q M pc lo sti :=
  k_callSV C q hlink hs0 hM hm hd0 hnL hA hsti hr hd hq (fun M2 h => by have h2 : M2 = M1 := h; subst h2; exact k)
theorem k_callNE (C : Cx p R s m args meth c g own cc nL rt d) (q : Nat) {y : MethodName} {cc0 : ByteArray} {nL0 d0 n idx : Nat} {ret0 : Option FieldType} {v : Int32} {M1 : Mem} (As : List Value) {sti : List Value} {host : String} (hlink : Cond.methodLinkNest own idx y host ∈ NW) (hs0 : Cond.static y ∈ wA) (hM : CtrE l g y cc0 nL0 ret0 d0 As M v M1) (hm : MLk y cc0 nL0 ret0 n) (hd0 : d0 < d) (hnL : nL0 ≤ 21) (hA : As.length = n) (hsti : sti = As.reverse ++ st) (hr : (st.map fun v => v.category).sum ≤ 8) (hd : decode cc pc = .ok (.invokestatic idx, 3)) (hq : pc + 3 = q) (k : KW p l e R s m args below meth c g nL Q M1 q lo (.int v :: st)) : KW p l e R s m args below meth c g nL Q M pc lo sti :=
  k_callNI C q hlink hs0 hM hm hd0 hnL hA hsti hr hd hq (fun r M2 h => by obtain ⟨h1, h2⟩ := h; subst h1; subst h2; exact k)
theorem k_callNU (C : Cx p R s m args meth c g own cc nL rt d) (q : Nat) {y : MethodName} {cc0 : ByteArray} {nL0 d0 n idx : Nat}  {M1 : Mem} (As : List Value) {sti : List Value} {host : String} (hlink : Cond.methodLinkNest own idx y host ∈ NW) (hs0 : Cond.static y ∈ wA) (hM : CtrU l g y cc0 nL0 d0 As M M1) (hm : MLk y cc0 nL0 none n) (hd0 : d0 < d) (hnL : nL0 ≤ 21) (hA : As.length = n) (hsti : sti = As.reverse ++ st) (hr : (st.map fun v => v.category).sum ≤ 8) (hd : decode cc pc = .ok (.invokestatic idx, 3)) (hq : pc + 3 = q) (k : KW p l e R s m args below meth c g nL Q M1 q lo st) : KW p l e R s m args below meth c g nL Q M pc lo sti :=
  k_callNV C q hlink hs0 hM hm hd0 hnL hA hsti hr hd hq (fun M2 h => by have h2 : M2 = M1 := h; subst h2; exact k)
end KX
