-- the law: its loop
section LK
variable {p : Program} {l : Launch} {e : Env} {s : State} {m : MethodId} {below : List Frame} {meth : Method} {c : Code} {b L : Nat} {xs : Nat → Int32} {g : GT} {M : Mem} {i : Nat}
set_option maxRecDepth 20000 in
theorem law_loop (X : LX p s m meth c b L xs g) : ∀ (f i : Nat) (M : Mem), L < i + 6 * f → i ≤ L → Rel M → LK p l e s m below meth c b g M 18 (lo0 g b i) [] := by
  have hL := X.2.2.2.2.2.2.2
  have hx := X.1.1
  have hb := X.1.2.1
  have out : ∀ (i : Nat) (M : Mem), LK p l e s m below meth c b g M 1259 (lo0 g b i) [] := fun i M H locs ls hP hS hl => by
    refine lv_iconst (v := 1) hx hb dL_1259 (by decide) ?_
    refine va_forget (fun q hq => ?_) ?_
    · have h := hS.2.2 q hq
      have h2 := X.2.2.2.2.2.2.1
      rw [← h2]; exact h
    · refine W.widen (k := 600000) (n := 7302249) (Nat.le_of_ble_eq_true rfl) (Nat.le_of_ble_eq_true rfl) ?_
      exact lw_ret hx hb X.1.2.2.1 X.1.2.2.2.2.2.2.2.2.1 dL_1260
  have head : ∀ (i : Nat) (M : Mem), i ≤ L → (i + 6 ≤ L → LK p l e s m below meth c b g M 27 (lo0 g b i) []) → LK p l e s m below meth c b g M 18 (lo0 g b i) [] := fun i M hi k H locs ls hP hS hl => by
    refine lv_iload_n hx hb dL_18 rfl (lv_at hl 0 rfl) ?_
    refine lv_aload_n hx hb dL_19 rfl (lv_at hl 1 rfl) ?_
    refine va_slen hx hb X.1.2.2.2.2.2.2.1 X.1.2.2.2.2.2.2.2.1 (l_nb X) hS dL_20 ?_
    refine lv_bipush (v := nI 6) hx hb dL_21 (by decide) ?_
    refine lv_isub hx hb dL_23 ?_
    have hs : (Int32.ofNat L - nI 6).toInt = (L : Int) - 6 := pk_sub_toInt (a := L) (b := 6) (by omega) (by decide)
    refine lv_icmp_gt (tgt := 1259) hx hb dL_24 (by decide) (fun _ => out i M H locs ls hP hS hl) (fun z => k ?_ H locs ls hP hS hl)
    rw [Int32.lt_iff_toInt_lt, hs, nI_toInt (by omega)] at z
    omega
  intro f
  induction f with
  | zero => intro i M h1 h2 _; omega
  | succ f ih =>
    intro i M h1 h2 hR
    refine head i M h2 (fun hi => ?_)
    have next : ∀ M2 : Mem, Rel M2 → LK p l e s m below meth c b g M2 1253 (lo0 g b i) [] := fun M2 hR2 H locs ls hP hS hl => by
      refine lv_iinc (v := nI (i + 6)) (lv' := lo0 g b (i + 6)) hx hb dL_1253 hl (k := 0) rfl (by rw [show Int32.ofInt 6 = nI 6 from by decide, nI_add]) (by decide) rfl (fun ls hl => ?_)
      refine lv_goto (tgt := 18) hx hb dL_1256 (by decide) ?_
      exact ih (i + 6) M2 (by omega) (by omega) hR2 H locs ls hP hS hl
    intro H locs ls hP hS hl
    refine lv_aload_n hx hb dL_27 rfl (lv_at hl 1 rfl) ?_
    refine lv_iload_n hx hb dL_28 rfl (lv_at hl 0 rfl) ?_
    refine va_sld hx hb X.1.2.2.2.2.2.2.1 X.1.2.2.2.2.2.2.2.1 (l_nb X) hS (vp_in_nI (by omega) (by omega)) dL_29 ?_
    refine lv_bipush (v := 63) hx hb dL_30 (by decide) ?_
    refine lv_iand hx hb dL_32 ?_
    obtain ⟨q, hq, eq⟩ := and63 (xs (nI i).toNatClampNeg)
    rw [eq]
    by_cases h35 : q < 35
    · rcases (show q = 0 ∨ q = 1 ∨ q = 2 ∨ q = 3 ∨ q = 4 ∨ q = 5 ∨ q = 6 ∨ q = 7 ∨ q = 8 ∨ q = 9 ∨ q = 10 ∨ q = 11 ∨ q = 12 ∨ q = 13 ∨ q = 14 ∨ q = 15 ∨ q = 16 ∨ q = 17 ∨ q = 18 ∨ q = 19 ∨ q = 20 ∨ q = 21 ∨ q = 22 ∨ q = 23 ∨ q = 24 ∨ q = 25 ∨ q = 26 ∨ q = 27 ∨ q = 28 ∨ q = 29 ∨ q = 30 ∨ q = 31 ∨ q = 32 ∨ q = 33 ∨ q = 34 by omega) with rfl | rfl | rfl | rfl | rfl | rfl | rfl | rfl | rfl | rfl | rfl | rfl | rfl | rfl | rfl | rfl | rfl | rfl | rfl | rfl | rfl | rfl | rfl | rfl | rfl | rfl | rfl | rfl | rfl | rfl | rfl | rfl | rfl | rfl | rfl
      · exact lv_tableIn (tgt := 188) hx hb dL_33 (by decide) (by decide) (off := 155) (by decide) (by decide) (law_0 X hR hi next H locs ls hP hS hl)
      · exact lv_tableIn (tgt := 231) hx hb dL_33 (by decide) (by decide) (off := 198) (by decide) (by decide) (law_1 X hR hi next H locs ls hP hS hl)
      · exact lv_tableIn (tgt := 264) hx hb dL_33 (by decide) (by decide) (off := 231) (by decide) (by decide) (law_2 X hR hi next H locs ls hP hS hl)
      · exact lv_tableIn (tgt := 297) hx hb dL_33 (by decide) (by decide) (off := 264) (by decide) (by decide) (law_3 X hR hi next H locs ls hP hS hl)
      · exact lv_tableIn (tgt := 330) hx hb dL_33 (by decide) (by decide) (off := 297) (by decide) (by decide) (law_4 X hR hi next H locs ls hP hS hl)
      · exact lv_tableIn (tgt := 363) hx hb dL_33 (by decide) (by decide) (off := 330) (by decide) (by decide) (law_5 X hR hi next H locs ls hP hS hl)
      · exact lv_tableIn (tgt := 396) hx hb dL_33 (by decide) (by decide) (off := 363) (by decide) (by decide) (law_6 X hR hi next H locs ls hP hS hl)
      · exact lv_tableIn (tgt := 429) hx hb dL_33 (by decide) (by decide) (off := 396) (by decide) (by decide) (law_7 X hR hi next H locs ls hP hS hl)
      · exact lv_tableIn (tgt := 452) hx hb dL_33 (by decide) (by decide) (off := 419) (by decide) (by decide) (law_8 X hR hi next H locs ls hP hS hl)
      · exact lv_tableIn (tgt := 515) hx hb dL_33 (by decide) (by decide) (off := 482) (by decide) (by decide) (law_9 X hR hi next H locs ls hP hS hl)
      · exact lv_tableIn (tgt := 538) hx hb dL_33 (by decide) (by decide) (off := 505) (by decide) (by decide) (law_10 X hR hi next H locs ls hP hS hl)
      · exact lv_tableIn (tgt := 561) hx hb dL_33 (by decide) (by decide) (off := 528) (by decide) (by decide) (law_11 X hR hi next H locs ls hP hS hl)
      · exact lv_tableIn (tgt := 614) hx hb dL_33 (by decide) (by decide) (off := 581) (by decide) (by decide) (law_12 X hR hi next H locs ls hP hS hl)
      · exact lv_tableIn (tgt := 637) hx hb dL_33 (by decide) (by decide) (off := 604) (by decide) (by decide) (law_13 X hR hi next H locs ls hP hS hl)
      · exact lv_tableIn (tgt := 660) hx hb dL_33 (by decide) (by decide) (off := 627) (by decide) (by decide) (law_14 X hR hi next H locs ls hP hS hl)
      · exact lv_tableIn (tgt := 683) hx hb dL_33 (by decide) (by decide) (off := 650) (by decide) (by decide) (law_15 X hR hi next H locs ls hP hS hl)
      · exact lv_tableIn (tgt := 706) hx hb dL_33 (by decide) (by decide) (off := 673) (by decide) (by decide) (law_16 X hR hi next H locs ls hP hS hl)
      · exact lv_tableIn (tgt := 729) hx hb dL_33 (by decide) (by decide) (off := 696) (by decide) (by decide) (law_17 X hR hi next H locs ls hP hS hl)
      · exact lv_tableIn (tgt := 762) hx hb dL_33 (by decide) (by decide) (off := 729) (by decide) (by decide) (law_18 X hR hi next H locs ls hP hS hl)
      · exact lv_tableIn (tgt := 785) hx hb dL_33 (by decide) (by decide) (off := 752) (by decide) (by decide) (law_19 X hR hi next H locs ls hP hS hl)
      · exact lv_tableIn (tgt := 818) hx hb dL_33 (by decide) (by decide) (off := 785) (by decide) (by decide) (law_20 X hR hi next H locs ls hP hS hl)
      · exact lv_tableIn (tgt := 861) hx hb dL_33 (by decide) (by decide) (off := 828) (by decide) (by decide) (law_21 X hR hi next H locs ls hP hS hl)
      · exact lv_tableIn (tgt := 884) hx hb dL_33 (by decide) (by decide) (off := 851) (by decide) (by decide) (law_22 X hR hi next H locs ls hP hS hl)
      · exact lv_tableIn (tgt := 927) hx hb dL_33 (by decide) (by decide) (off := 894) (by decide) (by decide) (law_23 X hR hi next H locs ls hP hS hl)
      · exact lv_tableIn (tgt := 950) hx hb dL_33 (by decide) (by decide) (off := 917) (by decide) (by decide) (law_24 X hR hi next H locs ls hP hS hl)
      · exact lv_tableIn (tgt := 993) hx hb dL_33 (by decide) (by decide) (off := 960) (by decide) (by decide) (law_25 X hR hi next H locs ls hP hS hl)
      · exact lv_tableIn (tgt := 1036) hx hb dL_33 (by decide) (by decide) (off := 1003) (by decide) (by decide) (law_26 X hR hi next H locs ls hP hS hl)
      · exact lv_tableIn (tgt := 1099) hx hb dL_33 (by decide) (by decide) (off := 1066) (by decide) (by decide) (law_27 X hR hi next H locs ls hP hS hl)
      · exact lv_tableIn (tgt := 1122) hx hb dL_33 (by decide) (by decide) (off := 1089) (by decide) (by decide) (law_28 X hR hi next H locs ls hP hS hl)
      · exact lv_tableIn (tgt := 1145) hx hb dL_33 (by decide) (by decide) (off := 1112) (by decide) (by decide) (law_29 X hR hi next H locs ls hP hS hl)
      · exact lv_tableIn (tgt := 1158) hx hb dL_33 (by decide) (by decide) (off := 1125) (by decide) (by decide) (law_30 X hR hi next H locs ls hP hS hl)
      · exact lv_tableIn (tgt := 1171) hx hb dL_33 (by decide) (by decide) (off := 1138) (by decide) (by decide) (law_31 X hR hi next H locs ls hP hS hl)
      · exact lv_tableIn (tgt := 1194) hx hb dL_33 (by decide) (by decide) (off := 1161) (by decide) (by decide) (law_32 X hR hi next H locs ls hP hS hl)
      · exact lv_tableIn (tgt := 1207) hx hb dL_33 (by decide) (by decide) (off := 1174) (by decide) (by decide) (law_33 X hR hi next H locs ls hP hS hl)
      · exact lv_tableIn (tgt := 1230) hx hb dL_33 (by decide) (by decide) (off := 1197) (by decide) (by decide) (law_34 X hR hi next H locs ls hP hS hl)
    · refine lv_tableOut (tgt := 1253) hx hb dL_33 (Or.inr ?_) (by decide) (next M hR H locs ls hP hS hl)
      rw [nI_toInt (by omega)]; omega
end LK
-- from the entry
theorem NW_tbl : ∀ w ∈ NW, w ∈ lw_tbl := by decide +kernel
theorem NW_on : ∀ w ∈ NW, w.onTables = true := by decide +kernel
theorem prim_K {args : Array Value} {s : State} {ty : FieldType} (hty : ∀ C, ty ≠ .object C) (h : (Cond.arrayClass ty).before args s = true) : ∃ cA : ClassId, ArrOfT s cA ty ∧ va_RA s cA ty := by
  obtain ⟨cA, kA, comp, h1, h2, h3⟩ := Cond.arrayClass_spec h
  refine ⟨cA, fun n z => ⟨fun k h => (by cases h), kA, h2, comp, h3⟩, ?_⟩
  cases ty with
  | object C => exact absurd rfl (hty C)
  | _ => exact h1
theorem obj_K {args : Array Value} {s : State} {C : String} (h : (Cond.arrayOver (.object C)).before args s = true) : ∃ cA : ClassId, ArrOfT s cA (.object C) ∧ va_RA s cA (.object C) := by
  obtain ⟨comp, cA, kA, h1, -, h3, h4, h5⟩ := Cond.arrayOver_spec h
  exact ⟨cA, fun n z => ⟨fun k h => (by cases h), kA, h3, comp, h4⟩, kA, comp, h3, h4, h1, h5⟩
set_option maxHeartbeats 4000000 in
set_option maxRecDepth 20000 in
theorem whole_K {args : Array Value} {s : State} (hts : ∀ w ∈ lw_tbl, w.before args s = true) : ∃ (D : va_G) (AC : Nat → ClassId), Kd D AC s := by
  have hw : ∀ w ∈ wA, w.before args s = true := fun w h => hts w (wA_in w h).1
  obtain ⟨c0, i0, h0⟩ := u_known (C := RX0) (T := TX0) (N := 1) (n := 1) hw inX0 (hw _ (wA_sub_1 _ (List.mem_of_getElem? (i := 98) (by decide +kernel))))
  obtain ⟨c1, i1, h1⟩ := u_known (C := RX1) (T := TX1) (N := 5) (n := 5) hw inX1 (hw _ (wA_sub_1 _ (List.mem_of_getElem? (i := 5) (by decide +kernel))))
  obtain ⟨c2, i2, h2⟩ := u_known (C := RX2) (T := TX2) (N := 7) (n := 7) hw inX2 (hw _ (wA_sub_1 _ (List.mem_of_getElem? (i := 11) (by decide +kernel))))
  obtain ⟨c3, i3, h3⟩ := u_known (C := RX3) (T := TX3) (N := 4) (n := 4) hw inX3 (hw _ (wA_sub_1 _ (List.mem_of_getElem? (i := 62) (by decide +kernel))))
  obtain ⟨c4, i4, h4⟩ := u_known (C := RX4) (T := TX4) (N := 3) (n := 3) hw inX4 (hw _ (wA_sub_2 _ (List.mem_of_getElem? (i := 5) (by decide +kernel))))
  obtain ⟨c5, i5, h5⟩ := u_known (C := RX5) (T := TX5) (N := 3) (n := 3) hw inX5 (hw _ (wA_sub_2 _ (List.mem_of_getElem? (i := 58) (by decide +kernel))))
  obtain ⟨c6, i6, h6⟩ := u_known (C := RX6) (T := TX6) (N := 6) (n := 6) hw inX6 (hw _ (wA_sub_2 _ (List.mem_of_getElem? (i := 38) (by decide +kernel))))
  obtain ⟨c7, i7, h7⟩ := u_known (C := RX7) (T := TX7) (N := 5) (n := 5) hw inX7 (hw _ (wA_sub_2 _ (List.mem_of_getElem? (i := 20) (by decide +kernel))))
  obtain ⟨c8, i8, h8⟩ := u_known (C := RX8) (T := TX8) (N := 6) (n := 6) hw inX8 (hw _ (wA_sub_0 _ (List.mem_of_getElem? (i := 99) (by decide +kernel))))
  obtain ⟨c9, i9, h9⟩ := u_known (C := RX9) (T := TX9) (N := 12) (n := 12) hw inX9 (hw _ (wA_sub_0 _ (List.mem_of_getElem? (i := 91) (by decide +kernel))))
  obtain ⟨c10, i10, h10⟩ := u_known (C := RX10) (T := TX10) (N := 21) (n := 21) hw inX10 (hw _ (wA_sub_7 _ (List.mem_of_getElem? (i := 49) (by decide +kernel))))
  obtain ⟨a0, p0, r0⟩ := prim_K (ty := .int) (fun C h => by cases h) (hw _ (wA_sub_1 _ (List.mem_of_getElem? (i := 75) (by decide +kernel))))
  obtain ⟨a1, p1, r1⟩ := prim_K (ty := .byte) (fun C h => by cases h) (hw _ (wA_sub_1 _ (List.mem_of_getElem? (i := 74) (by decide +kernel))))
  obtain ⟨a2, p2, r2⟩ := prim_K (ty := .boolean) (fun C h => by cases h) (hw _ (wA_sub_2 _ (List.mem_of_getElem? (i := 18) (by decide +kernel))))
  have o3 : (Cond.arrayOver (.object "FurrowTalk$Furrow")).before args s = true := hts _ (by decide +kernel)
  obtain ⟨a3, p3, r3⟩ := obj_K o3
  have o4 : (Cond.arrayOver (.object "FurrowTalk$Law")).before args s = true := hts _ (by decide +kernel)
  obtain ⟨a4, p4, r4⟩ := obj_K o4
  have o5 : (Cond.arrayOver (.object "FurrowTalk$Sheet")).before args s = true := hts _ (by decide +kernel)
  obtain ⟨a5, p5, r5⟩ := obj_K o5
  refine ⟨(fun k => ([c0, c1, c2, c3, c4, c5, c6, c7, c8, c9, c10] : List ClassId).getD k c0, fun k => ([i0, i1, i2, i3, i4, i5, i6, i7, i8, i9, i10] : List (Nat → Nat)).getD k i0), fun k => ([a0, a1, a2, a3, a4, a5] : List ClassId).getD k a0, ⟨fun k q hq => ?_, fun k q hq => ?_⟩, fun w h => va_Nw.of (NW_on w h) (hts w (NW_tbl w h)), va_AO.of o3, va_AO.of o4, va_AO.of o5⟩
  · match k, hq with
    | 0, hq => cases hq; exact h0
    | 1, hq => cases hq; exact h1
    | 2, hq => cases hq; exact h2
    | 3, hq => cases hq; exact h3
    | 4, hq => cases hq; exact h4
    | 5, hq => cases hq; exact h5
    | 6, hq => cases hq; exact h6
    | 7, hq => cases hq; exact h7
    | 8, hq => cases hq; exact h8
    | 9, hq => cases hq; exact h9
    | 10, hq => cases hq; exact h10
    | k + 11, hq => simp [vwCl] at hq
  · match k, hq with
    | 0, hq => cases hq; exact ⟨p0, r0⟩
    | 1, hq => cases hq; exact ⟨p1, r1⟩
    | 2, hq => cases hq; exact ⟨p2, r2⟩
    | 3, hq => cases hq; exact ⟨p3, r3⟩
    | 4, hq => cases hq; exact ⟨p4, r4⟩
    | 5, hq => cases hq; exact ⟨p5, r5⟩
    | k + 6, hq => simp [tysC] at hq
set_option maxRecDepth 20000 in
theorem whole_ka {args : Array Value} {s : State} {A : Nat → Prop} (hts : ∀ w ∈ lw_tbl, w.before args s = true) (hgv : (Jvm.Cond.and given_1 narrow_1).before args s = true) (hA : ∀ a : Nat, a < s.heap.size → ¬ A a) : ∃ t : Nat, va_Z "FurrowTalk" "KIND_ABOVE" "[I" (.ref t) A s s.heap ∧ va_T .int t 7 f105 A s s.heap := by
  have hs := flat_of_before _ hgv
  have hel : ∀ j : Nat, j < 7 → (Term.elem (Term.static "FurrowTalk" "KIND_ABOVE" "[I") (.int (Int32.ofNat j))).eval args s none [] s = some (f105 j) := fun j hj => by
    rcases (show j = 0 ∨ j = 1 ∨ j = 2 ∨ j = 3 ∨ j = 4 ∨ j = 5 ∨ j = 6 by omega) with rfl | rfl | rfl | rfl | rfl | rfl | rfl
    · exact va_eqt (hs (Cond.eq (.elem (Term.static "FurrowTalk" "KIND_ABOVE" "[I") (.int 0)) (.int (-1))) (by decide +kernel))
    · exact va_eqt (hs (Cond.eq (.elem (Term.static "FurrowTalk" "KIND_ABOVE" "[I") (.int 1)) (.int 0)) (by decide +kernel))
    · exact va_eqt (hs (Cond.eq (.elem (Term.static "FurrowTalk" "KIND_ABOVE" "[I") (.int 2)) (.int 0)) (by decide +kernel))
    · exact va_eqt (hs (Cond.eq (.elem (Term.static "FurrowTalk" "KIND_ABOVE" "[I") (.int 3)) (.int 0)) (by decide +kernel))
    · exact va_eqt (hs (Cond.eq (.elem (Term.static "FurrowTalk" "KIND_ABOVE" "[I") (.int 4)) (.int 1)) (by decide +kernel))
    · exact va_eqt (hs (Cond.eq (.elem (Term.static "FurrowTalk" "KIND_ABOVE" "[I") (.int 5)) (.int 2)) (by decide +kernel))
    · exact va_eqt (hs (Cond.eq (.elem (Term.static "FurrowTalk" "KIND_ABOVE" "[I") (.int 6)) (.int 0)) (by decide +kernel))
  obtain ⟨t, h1, h2⟩ := va_Tof (tm := (Term.static "FurrowTalk" "KIND_ABOVE" "[I")) (ty := .int) (N := 7) (f := f105) (A := A) (by decide) (hs (Cond.arrayOf (Term.static "FurrowTalk" "KIND_ABOVE" "[I") .int) (by decide +kernel)) (va_eqt (hs (Cond.eq (.length (Term.static "FurrowTalk" "KIND_ABOVE" "[I")) (.int 7)) (by decide +kernel))) hel hA
  exact ⟨t, va_Zof (hts (.laysStatic "FurrowTalk" "KIND_ABOVE" "[I") (by decide +kernel)) (hts (.initialized "FurrowTalk") (by decide +kernel)) h1 hA, h2⟩
set_option maxRecDepth 20000 in
theorem whole_nm {args : Array Value} {s : State} {A : Nat → Prop} (hts : ∀ w ∈ lw_tbl, w.before args s = true) (hgv : (Jvm.Cond.and given_1 narrow_1).before args s = true) (hA : ∀ a : Nat, a < s.heap.size → ¬ A a) : ∃ t : Nat, va_Z "FurrowTalk$TextReader" "NAMES" "[C" (.ref t) A s s.heap ∧ va_T .char t 6 f106 A s s.heap := by
  have hs := flat_of_before _ hgv
  have hel : ∀ j : Nat, j < 6 → (Term.elem (Term.static "FurrowTalk$TextReader" "NAMES" "[C") (.int (Int32.ofNat j))).eval args s none [] s = some (f106 j) := fun j hj => by
    rcases (show j = 0 ∨ j = 1 ∨ j = 2 ∨ j = 3 ∨ j = 4 ∨ j = 5 by omega) with rfl | rfl | rfl | rfl | rfl | rfl
    · exact va_eqt (hs (Cond.eq (.elem (Term.static "FurrowTalk$TextReader" "NAMES" "[C") (.int 0)) (.int 97)) (by decide +kernel))
    · exact va_eqt (hs (Cond.eq (.elem (Term.static "FurrowTalk$TextReader" "NAMES" "[C") (.int 1)) (.int 98)) (by decide +kernel))
    · exact va_eqt (hs (Cond.eq (.elem (Term.static "FurrowTalk$TextReader" "NAMES" "[C") (.int 2)) (.int 107)) (by decide +kernel))
    · exact va_eqt (hs (Cond.eq (.elem (Term.static "FurrowTalk$TextReader" "NAMES" "[C") (.int 3)) (.int 108)) (by decide +kernel))
    · exact va_eqt (hs (Cond.eq (.elem (Term.static "FurrowTalk$TextReader" "NAMES" "[C") (.int 4)) (.int 99)) (by decide +kernel))
    · exact va_eqt (hs (Cond.eq (.elem (Term.static "FurrowTalk$TextReader" "NAMES" "[C") (.int 5)) (.int 100)) (by decide +kernel))
  obtain ⟨t, h1, h2⟩ := va_Tof (tm := (Term.static "FurrowTalk$TextReader" "NAMES" "[C")) (ty := .char) (N := 6) (f := f106) (A := A) (by decide) (hs (Cond.arrayOf (Term.static "FurrowTalk$TextReader" "NAMES" "[C") .char) (by decide +kernel)) (va_eqt (hs (Cond.eq (.length (Term.static "FurrowTalk$TextReader" "NAMES" "[C")) (.int 6)) (by decide +kernel))) hel hA
  exact ⟨t, va_Zof (hts (.laysStatic "FurrowTalk$TextReader" "NAMES" "[C") (by decide +kernel)) (hts (.initialized "FurrowTalk$TextReader") (by decide +kernel)) h1 hA, h2⟩
set_option maxHeartbeats 4000000 in
set_option maxRecDepth 100000 in
/-- THE LAW, from its entry -/
theorem whole_start {p : Program} {e : Env} {s : State} {m : MethodId} {below : List Frame} {meth : Method} {c : Code} (l : Launch) (hflags : l.flags = flags0) {b L : Nat} {xs : Nat → Int32} (hL : L ≤ 3072) (C0 : lw_At p s m meth c b L xs) : W p l e room_1 s m #[Value.ref b] below meth c s.heap [] 0 0 (lw_Z below #[Value.ref b] s) (entryFrame m ([Value.ref b] : List Value).toArray 4) := by
  obtain ⟨hx, hb, hr, hml, hown, hts, hX, hbl, hlocks, hgv⟩ := id C0
  have hw : ∀ w ∈ wA, w.before #[Value.ref b] s = true := fun w h => hts w (wA_in w h).1
  obtain ⟨D, AC, hK⟩ := whole_K hts
  obtain ⟨t5, hz5, ht5⟩ := whole_ka (A := fun q : Nat => s.heap.size ≤ q) hts hgv (fun a h => Nat.not_le.mpr h)
  obtain ⟨t6, hz6, ht6⟩ := whole_nm (A := fun q : Nat => s.heap.size ≤ q) hts hgv (fun a h => Nat.not_le.mpr h)
  have N : Nx p room_1 s m #[Value.ref b] c D AC R_law code 4 (fun q : Nat => s.heap.size ≤ q) 100 600000 7302249 := ⟨hx, hb, hml, hown, hw, hK, fun _ h => h, Nat.le_of_ble_eq_true rfl, Nat.le_of_ble_eq_true rfl, Nat.le_of_ble_eq_true rfl, Nat.le_of_ble_eq_true rfl⟩
  have hl := lv_entry ([.ref b]) (n := 4) (Nat.le_of_ble_eq_true rfl)
  rw [lg_entry_eq]
  have go : NK p l e room_1 s m #[Value.ref b] below meth c D 4 (fun q : Nat => s.heap.size ≤ q) (lw_Z below #[Value.ref b] s) [] 0 0 0 [(0, .ref b)] [] := by
    refine n_new N 3 (ci := 9) (fs := [.null, .null, .int 0, .null, .null, .null, .null, .null, .null, .null, .null, .null]) (wA_sub_0 _ (List.mem_of_getElem? (i := 90) (by decide +kernel))) (wA_sub_0 _ (List.mem_of_getElem? (i := 91) (by decide +kernel))) (wA_sub_0 _ (List.mem_of_getElem? (i := 76) (by decide +kernel))) inX9 plX9 rfl (fun j hj => by rcases (show j = 0 ∨ j = 1 ∨ j = 2 ∨ j = 3 ∨ j = 4 ∨ j = 5 ∨ j = 6 ∨ j = 7 ∨ j = 8 ∨ j = 9 ∨ j = 10 ∨ j = 11 by omega) with rfl | rfl | rfl | rfl | rfl | rfl | rfl | rfl | rfl | rfl | rfl | rfl <;> rfl) (Nat.le_of_ble_eq_true rfl) (Nat.le_of_ble_eq_true rfl) dL_0 rfl (fun x => ?_)
    refine n_dup N 4 rfl dL_3 rfl ?_
    refine n_init N 7 (ws := fun f => talkW AC x f) (wA_sub_0 _ (List.mem_of_getElem? (i := 92) (by decide +kernel))) imX9_init (zX9_init l D AC x) mlX9_init rfl (by decide) (by decide) rfl rfl (Nat.le_of_ble_eq_true rfl) (Nat.le_of_ble_eq_true rfl) (Nat.le_of_ble_eq_true rfl) dL_4 rfl (fun bT => ?_)
    refine n_astore N 8 [(1, .ref x), (0, .ref b)] rfl (by decide) rfl dL_7 rfl ?_
    refine n_new N 11 (ci := 10) (fs := [.null, .null, .null, .int 0, .null, .null, .null, .null, .null, .null, .null, .null, .int 0, .int 0, .int 0, .int 0, .int 0, .null, .null, .int 0, .int 0]) (wA_sub_7 _ (List.mem_of_getElem? (i := 48) (by decide +kernel))) (wA_sub_7 _ (List.mem_of_getElem? (i := 49) (by decide +kernel))) (wA_sub_0 _ (List.mem_of_getElem? (i := 86) (by decide +kernel))) inX10 plX10 rfl (fun j hj => by rcases (show j = 0 ∨ j = 1 ∨ j = 2 ∨ j = 3 ∨ j = 4 ∨ j = 5 ∨ j = 6 ∨ j = 7 ∨ j = 8 ∨ j = 9 ∨ j = 10 ∨ j = 11 ∨ j = 12 ∨ j = 13 ∨ j = 14 ∨ j = 15 ∨ j = 16 ∨ j = 17 ∨ j = 18 ∨ j = 19 ∨ j = 20 by omega) with rfl | rfl | rfl | rfl | rfl | rfl | rfl | rfl | rfl | rfl | rfl | rfl | rfl | rfl | rfl | rfl | rfl | rfl | rfl | rfl | rfl <;> rfl) (Nat.le_of_ble_eq_true rfl) (Nat.le_of_ble_eq_true rfl) dL_8 rfl (fun mo => ?_)
    refine n_dup N 12 rfl dL_11 rfl ?_
    refine n_init N 15 (ws := fun f => modelW AC mo f) (wA_sub_7 _ (List.mem_of_getElem? (i := 50) (by decide +kernel))) imX10_init (zX10_init l D AC mo) mlX10_init rfl (by decide) (by decide) rfl rfl (Nat.le_of_ble_eq_true rfl) (Nat.le_of_ble_eq_true rfl) (Nat.le_of_ble_eq_true rfl) dL_12 rfl (fun bM => ?_)
    refine n_astore N 16 [(2, .ref mo), (1, .ref x), (0, .ref b)] rfl (by decide) rfl dL_15 rfl ?_
    refine n_iconst N 17 (v := nI 0) (by decide) dL_16 rfl ?_
    refine n_istore N 18 [(3, .int (nI 0)), (2, .ref mo), (1, .ref x), (0, .ref b)] rfl (by decide) rfl dL_17 rfl ?_
    refine n_X (Y := bornL AC bT bM x mo) rfl ?_
    refine n_cs (cells2 := 105) (slots2 := 3024) rfl rfl ?_
    intro H locs ls hP hD hS hl
    have hDg := born_D D AC bT bM x mo t5 t6 s.heap.size hD
    have X : LX p s m meth c b L xs (gB D AC bT bM x mo t5 t6 s.heap.size) := ⟨C0, hw, hK.1, fun M => wl_D _ M0 M hDg, hK.2.1, ⟨hz5, ht5, hz6, ht6⟩, rfl, hL⟩
    exact law_loop X (L + 1) 0 M0 (by omega) (Nat.zero_le _) Rel_M0 H locs ls (born_P D AC bT bM x mo t5 t6 s.heap.size hP) hS (lv_sub hl [0, 3, 2, 1] rfl)
  exact go s.heap [] _ (fun k q h => by simp at h) ⟨fun i j p q h => by simp at h, fun k q h => by simp at h⟩ va_S.rf hl
