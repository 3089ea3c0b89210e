-- links: which word of the tables each instruction needs, by wip/whole/mk05.py
theorem wA_sub_0 : ∀ w ∈ wA_0, w ∈ wA := fun w h => List.mem_append_left _ h
theorem wA_sub_1 : ∀ w ∈ wA_1, w ∈ wA := fun w h => List.mem_append_right _ (List.mem_append_left _ h)
theorem wA_sub_2 : ∀ w ∈ wA_2, w ∈ wA := fun w h => List.mem_append_right _ (List.mem_append_right _ (List.mem_append_left _ h))
theorem wA_sub_3 : ∀ w ∈ wA_3, w ∈ wA := fun w h => List.mem_append_right _ (List.mem_append_right _ (List.mem_append_right _ (List.mem_append_left _ h)))
theorem wA_sub_4 : ∀ w ∈ wA_4, w ∈ wA := fun w h => List.mem_append_right _ (List.mem_append_right _ (List.mem_append_right _ (List.mem_append_right _ (List.mem_append_left _ h))))
theorem wA_sub_5 : ∀ w ∈ wA_5, w ∈ wA := fun w h => List.mem_append_right _ (List.mem_append_right _ (List.mem_append_right _ (List.mem_append_right _ (List.mem_append_right _ (List.mem_append_left _ h)))))
theorem wA_sub_6 : ∀ w ∈ wA_6, w ∈ wA := fun w h => List.mem_append_right _ (List.mem_append_right _ (List.mem_append_right _ (List.mem_append_right _ (List.mem_append_right _ (List.mem_append_right _ (List.mem_append_left _ h))))))
theorem wA_sub_7 : ∀ w ∈ wA_7, w ∈ wA := fun w h => List.mem_append_right _ (List.mem_append_right _ (List.mem_append_right _ (List.mem_append_right _ (List.mem_append_right _ (List.mem_append_right _ (List.mem_append_right _ (List.mem_append_left _ h)))))))
theorem wA_sub_8 : ∀ w ∈ wA_8, w ∈ wA := fun w h => List.mem_append_right _ (List.mem_append_right _ (List.mem_append_right _ (List.mem_append_right _ (List.mem_append_right _ (List.mem_append_right _ (List.mem_append_right _ (List.mem_append_right _ (List.mem_append_left _ h))))))))
theorem wA_sub_9 : ∀ w ∈ wA_9, w ∈ wA := fun w h => List.mem_append_right _ (List.mem_append_right _ (List.mem_append_right _ (List.mem_append_right _ (List.mem_append_right _ (List.mem_append_right _ (List.mem_append_right _ (List.mem_append_right _ (List.mem_append_right _ (List.mem_append_left _ h)))))))))
theorem wA_sub_10 : ∀ w ∈ wA_10, w ∈ wA := fun w h => List.mem_append_right _ (List.mem_append_right _ (List.mem_append_right _ (List.mem_append_right _ (List.mem_append_right _ (List.mem_append_right _ (List.mem_append_right _ (List.mem_append_right _ (List.mem_append_right _ (List.mem_append_right _ (List.mem_append_left _ h))))))))))
theorem wA_sub_11 : ∀ w ∈ wA_11, w ∈ wA := fun w h => List.mem_append_right _ (List.mem_append_right _ (List.mem_append_right _ (List.mem_append_right _ (List.mem_append_right _ (List.mem_append_right _ (List.mem_append_right _ (List.mem_append_right _ (List.mem_append_right _ (List.mem_append_right _ (List.mem_append_right _ (h)))))))))))
theorem inX0 : ∀ w ∈ u_ws RX0 TX0 1, w ∈ wA := by
  intro w hw
  obtain ⟨k, hk, rfl⟩ := List.mem_map.mp hw
  have hk := List.mem_range.mp hk
  match k, hk with
  | 0, _ => exact wA_sub_2 _ (List.mem_of_getElem? (i := 3) (by decide +kernel))
  | k + 1, hk => exact absurd hk (by omega)
theorem plX0 : PLk RX0 TX0 1 tyX0 := ⟨tyX0_ok, nmX0⟩
theorem inX1 : ∀ w ∈ u_ws RX1 TX1 5, w ∈ wA := by
  intro w hw
  obtain ⟨k, hk, rfl⟩ := List.mem_map.mp hw
  have hk := List.mem_range.mp hk
  match k, hk with
  | 0, _ => exact wA_sub_1 _ (List.mem_of_getElem? (i := 56) (by decide +kernel))
  | 1, _ => exact wA_sub_1 _ (List.mem_of_getElem? (i := 57) (by decide +kernel))
  | 2, _ => exact wA_sub_1 _ (List.mem_of_getElem? (i := 58) (by decide +kernel))
  | 3, _ => exact wA_sub_1 _ (List.mem_of_getElem? (i := 59) (by decide +kernel))
  | 4, _ => exact wA_sub_1 _ (List.mem_of_getElem? (i := 60) (by decide +kernel))
  | k + 5, hk => exact absurd hk (by omega)
theorem plX1 : PLk RX1 TX1 5 tyX1 := ⟨tyX1_ok, nmX1⟩
theorem inX2 : ∀ w ∈ u_ws RX2 TX2 7, w ∈ wA := by
  intro w hw
  obtain ⟨k, hk, rfl⟩ := List.mem_map.mp hw
  have hk := List.mem_range.mp hk
  match k, hk with
  | 0, _ => exact wA_sub_1 _ (List.mem_of_getElem? (i := 37) (by decide +kernel))
  | 1, _ => exact wA_sub_1 _ (List.mem_of_getElem? (i := 38) (by decide +kernel))
  | 2, _ => exact wA_sub_1 _ (List.mem_of_getElem? (i := 39) (by decide +kernel))
  | 3, _ => exact wA_sub_1 _ (List.mem_of_getElem? (i := 40) (by decide +kernel))
  | 4, _ => exact wA_sub_1 _ (List.mem_of_getElem? (i := 41) (by decide +kernel))
  | 5, _ => exact wA_sub_1 _ (List.mem_of_getElem? (i := 42) (by decide +kernel))
  | 6, _ => exact wA_sub_1 _ (List.mem_of_getElem? (i := 43) (by decide +kernel))
  | k + 7, hk => exact absurd hk (by omega)
theorem plX2 : PLk RX2 TX2 7 tyX2 := ⟨tyX2_ok, nmX2⟩
theorem inX3 : ∀ w ∈ u_ws RX3 TX3 4, w ∈ wA := by
  intro w hw
  obtain ⟨k, hk, rfl⟩ := List.mem_map.mp hw
  have hk := List.mem_range.mp hk
  match k, hk with
  | 0, _ => exact wA_sub_1 _ (List.mem_of_getElem? (i := 70) (by decide +kernel))
  | 1, _ => exact wA_sub_1 _ (List.mem_of_getElem? (i := 71) (by decide +kernel))
  | 2, _ => exact wA_sub_1 _ (List.mem_of_getElem? (i := 72) (by decide +kernel))
  | 3, _ => exact wA_sub_1 _ (List.mem_of_getElem? (i := 73) (by decide +kernel))
  | k + 4, hk => exact absurd hk (by omega)
theorem plX3 : PLk RX3 TX3 4 tyX3 := ⟨tyX3_ok, nmX3⟩
theorem inX4 : ∀ w ∈ u_ws RX4 TX4 3, w ∈ wA := by
  intro w hw
  obtain ⟨k, hk, rfl⟩ := List.mem_map.mp hw
  have hk := List.mem_range.mp hk
  match k, hk with
  | 0, _ => exact wA_sub_2 _ (List.mem_of_getElem? (i := 15) (by decide +kernel))
  | 1, _ => exact wA_sub_2 _ (List.mem_of_getElem? (i := 16) (by decide +kernel))
  | 2, _ => exact wA_sub_2 _ (List.mem_of_getElem? (i := 17) (by decide +kernel))
  | k + 3, hk => exact absurd hk (by omega)
theorem plX4 : PLk RX4 TX4 3 tyX4 := ⟨tyX4_ok, nmX4⟩
theorem inX5 : ∀ w ∈ u_ws RX5 TX5 3, w ∈ wA := by
  intro w hw
  obtain ⟨k, hk, rfl⟩ := List.mem_map.mp hw
  have hk := List.mem_range.mp hk
  match k, hk with
  | 0, _ => exact wA_sub_2 _ (List.mem_of_getElem? (i := 68) (by decide +kernel))
  | 1, _ => exact wA_sub_2 _ (List.mem_of_getElem? (i := 69) (by decide +kernel))
  | 2, _ => exact wA_sub_2 _ (List.mem_of_getElem? (i := 70) (by decide +kernel))
  | k + 3, hk => exact absurd hk (by omega)
theorem plX5 : PLk RX5 TX5 3 tyX5 := ⟨tyX5_ok, nmX5⟩
theorem inX6 : ∀ w ∈ u_ws RX6 TX6 6, w ∈ wA := by
  intro w hw
  obtain ⟨k, hk, rfl⟩ := List.mem_map.mp hw
  have hk := List.mem_range.mp hk
  match k, hk with
  | 0, _ => exact wA_sub_2 _ (List.mem_of_getElem? (i := 51) (by decide +kernel))
  | 1, _ => exact wA_sub_2 _ (List.mem_of_getElem? (i := 52) (by decide +kernel))
  | 2, _ => exact wA_sub_2 _ (List.mem_of_getElem? (i := 53) (by decide +kernel))
  | 3, _ => exact wA_sub_2 _ (List.mem_of_getElem? (i := 54) (by decide +kernel))
  | 4, _ => exact wA_sub_2 _ (List.mem_of_getElem? (i := 55) (by decide +kernel))
  | 5, _ => exact wA_sub_2 _ (List.mem_of_getElem? (i := 56) (by decide +kernel))
  | k + 6, hk => exact absurd hk (by omega)
theorem plX6 : PLk RX6 TX6 6 tyX6 := ⟨tyX6_ok, nmX6⟩
theorem inX7 : ∀ w ∈ u_ws RX7 TX7 5, w ∈ wA := by
  intro w hw
  obtain ⟨k, hk, rfl⟩ := List.mem_map.mp hw
  have hk := List.mem_range.mp hk
  match k, hk with
  | 0, _ => exact wA_sub_2 _ (List.mem_of_getElem? (i := 32) (by decide +kernel))
  | 1, _ => exact wA_sub_2 _ (List.mem_of_getElem? (i := 33) (by decide +kernel))
  | 2, _ => exact wA_sub_2 _ (List.mem_of_getElem? (i := 34) (by decide +kernel))
  | 3, _ => exact wA_sub_2 _ (List.mem_of_getElem? (i := 35) (by decide +kernel))
  | 4, _ => exact wA_sub_2 _ (List.mem_of_getElem? (i := 36) (by decide +kernel))
  | k + 5, hk => exact absurd hk (by omega)
theorem plX7 : PLk RX7 TX7 5 tyX7 := ⟨tyX7_ok, nmX7⟩
theorem inX8 : ∀ w ∈ u_ws RX8 TX8 6, w ∈ wA := by
  intro w hw
  obtain ⟨k, hk, rfl⟩ := List.mem_map.mp hw
  have hk := List.mem_range.mp hk
  match k, hk with
  | 0, _ => exact wA_sub_1 _ (List.mem_of_getElem? (i := 88) (by decide +kernel))
  | 1, _ => exact wA_sub_1 _ (List.mem_of_getElem? (i := 89) (by decide +kernel))
  | 2, _ => exact wA_sub_1 _ (List.mem_of_getElem? (i := 90) (by decide +kernel))
  | 3, _ => exact wA_sub_1 _ (List.mem_of_getElem? (i := 91) (by decide +kernel))
  | 4, _ => exact wA_sub_1 _ (List.mem_of_getElem? (i := 92) (by decide +kernel))
  | 5, _ => exact wA_sub_1 _ (List.mem_of_getElem? (i := 93) (by decide +kernel))
  | k + 6, hk => exact absurd hk (by omega)
theorem plX8 : PLk RX8 TX8 6 tyX8 := ⟨tyX8_ok, nmX8⟩
theorem inX9 : ∀ w ∈ u_ws RX9 TX9 12, w ∈ wA := by
  intro w hw
  obtain ⟨k, hk, rfl⟩ := List.mem_map.mp hw
  have hk := List.mem_range.mp hk
  match k, hk with
  | 0, _ => exact wA_sub_2 _ (List.mem_of_getElem? (i := 83) (by decide +kernel))
  | 1, _ => exact wA_sub_2 _ (List.mem_of_getElem? (i := 84) (by decide +kernel))
  | 2, _ => exact wA_sub_2 _ (List.mem_of_getElem? (i := 85) (by decide +kernel))
  | 3, _ => exact wA_sub_2 _ (List.mem_of_getElem? (i := 86) (by decide +kernel))
  | 4, _ => exact wA_sub_2 _ (List.mem_of_getElem? (i := 87) (by decide +kernel))
  | 5, _ => exact wA_sub_2 _ (List.mem_of_getElem? (i := 88) (by decide +kernel))
  | 6, _ => exact wA_sub_2 _ (List.mem_of_getElem? (i := 89) (by decide +kernel))
  | 7, _ => exact wA_sub_2 _ (List.mem_of_getElem? (i := 90) (by decide +kernel))
  | 8, _ => exact wA_sub_2 _ (List.mem_of_getElem? (i := 91) (by decide +kernel))
  | 9, _ => exact wA_sub_2 _ (List.mem_of_getElem? (i := 92) (by decide +kernel))
  | 10, _ => exact wA_sub_2 _ (List.mem_of_getElem? (i := 93) (by decide +kernel))
  | 11, _ => exact wA_sub_2 _ (List.mem_of_getElem? (i := 94) (by decide +kernel))
  | k + 12, hk => exact absurd hk (by omega)
theorem plX9 : PLk RX9 TX9 12 tyX9 := ⟨tyX9_ok, nmX9⟩
theorem inX10 : ∀ w ∈ u_ws RX10 TX10 21, w ∈ wA := by
  intro w hw
  obtain ⟨k, hk, rfl⟩ := List.mem_map.mp hw
  have hk := List.mem_range.mp hk
  match k, hk with
  | 0, _ => exact wA_sub_7 _ (List.mem_of_getElem? (i := 75) (by decide +kernel))
  | 1, _ => exact wA_sub_7 _ (List.mem_of_getElem? (i := 76) (by decide +kernel))
  | 2, _ => exact wA_sub_7 _ (List.mem_of_getElem? (i := 77) (by decide +kernel))
  | 3, _ => exact wA_sub_7 _ (List.mem_of_getElem? (i := 78) (by decide +kernel))
  | 4, _ => exact wA_sub_7 _ (List.mem_of_getElem? (i := 79) (by decide +kernel))
  | 5, _ => exact wA_sub_7 _ (List.mem_of_getElem? (i := 80) (by decide +kernel))
  | 6, _ => exact wA_sub_7 _ (List.mem_of_getElem? (i := 81) (by decide +kernel))
  | 7, _ => exact wA_sub_7 _ (List.mem_of_getElem? (i := 82) (by decide +kernel))
  | 8, _ => exact wA_sub_7 _ (List.mem_of_getElem? (i := 83) (by decide +kernel))
  | 9, _ => exact wA_sub_7 _ (List.mem_of_getElem? (i := 84) (by decide +kernel))
  | 10, _ => exact wA_sub_7 _ (List.mem_of_getElem? (i := 85) (by decide +kernel))
  | 11, _ => exact wA_sub_7 _ (List.mem_of_getElem? (i := 86) (by decide +kernel))
  | 12, _ => exact wA_sub_7 _ (List.mem_of_getElem? (i := 87) (by decide +kernel))
  | 13, _ => exact wA_sub_7 _ (List.mem_of_getElem? (i := 88) (by decide +kernel))
  | 14, _ => exact wA_sub_7 _ (List.mem_of_getElem? (i := 89) (by decide +kernel))
  | 15, _ => exact wA_sub_7 _ (List.mem_of_getElem? (i := 90) (by decide +kernel))
  | 16, _ => exact wA_sub_7 _ (List.mem_of_getElem? (i := 91) (by decide +kernel))
  | 17, _ => exact wA_sub_7 _ (List.mem_of_getElem? (i := 92) (by decide +kernel))
  | 18, _ => exact wA_sub_7 _ (List.mem_of_getElem? (i := 93) (by decide +kernel))
  | 19, _ => exact wA_sub_7 _ (List.mem_of_getElem? (i := 94) (by decide +kernel))
  | 20, _ => exact wA_sub_7 _ (List.mem_of_getElem? (i := 95) (by decide +kernel))
  | k + 21, hk => exact absurd hk (by omega)
theorem plX10 : PLk RX10 TX10 21 tyX10 := ⟨tyX10_ok, nmX10⟩
theorem flX9_12 : FLk RX9 12 9 0 RX9 TX9 12 := ⟨rfl, inX9, by decide, wA_sub_2 _ (List.mem_of_getElem? (i := 71) (by decide +kernel))⟩
theorem flX9_16 : FLk RX9 16 9 1 RX9 TX9 12 := ⟨rfl, inX9, by decide, wA_sub_2 _ (List.mem_of_getElem? (i := 72) (by decide +kernel))⟩
theorem flX9_22 : FLk RX9 22 9 3 RX9 TX9 12 := ⟨rfl, inX9, by decide, wA_sub_2 _ (List.mem_of_getElem? (i := 74) (by decide +kernel))⟩
theorem flX9_29 : FLk RX9 29 9 4 RX9 TX9 12 := ⟨rfl, inX9, by decide, wA_sub_2 _ (List.mem_of_getElem? (i := 75) (by decide +kernel))⟩
theorem flX9_36 : FLk RX9 36 9 5 RX9 TX9 12 := ⟨rfl, inX9, by decide, wA_sub_2 _ (List.mem_of_getElem? (i := 76) (by decide +kernel))⟩
theorem flX9_45 : FLk RX9 45 9 6 RX9 TX9 12 := ⟨rfl, inX9, by decide, wA_sub_2 _ (List.mem_of_getElem? (i := 77) (by decide +kernel))⟩
theorem flX9_49 : FLk RX9 49 9 7 RX9 TX9 12 := ⟨rfl, inX9, by decide, wA_sub_2 _ (List.mem_of_getElem? (i := 78) (by decide +kernel))⟩
theorem flX9_55 : FLk RX9 55 9 8 RX9 TX9 12 := ⟨rfl, inX9, by decide, wA_sub_2 _ (List.mem_of_getElem? (i := 79) (by decide +kernel))⟩
theorem flX9_62 : FLk RX9 62 9 9 RX9 TX9 12 := ⟨rfl, inX9, by decide, wA_sub_2 _ (List.mem_of_getElem? (i := 80) (by decide +kernel))⟩
theorem flX9_68 : FLk RX9 68 9 10 RX9 TX9 12 := ⟨rfl, inX9, by decide, wA_sub_2 _ (List.mem_of_getElem? (i := 81) (by decide +kernel))⟩
theorem flX9_72 : FLk RX9 72 9 11 RX9 TX9 12 := ⟨rfl, inX9, by decide, wA_sub_2 _ (List.mem_of_getElem? (i := 82) (by decide +kernel))⟩
theorem flX9_92 : FLk RX9 92 8 0 RX8 TX8 6 := ⟨rfl, inX8, by decide, wA_sub_1 _ (List.mem_of_getElem? (i := 77) (by decide +kernel))⟩
theorem flX9_95 : FLk RX9 95 1 1 RX1 TX1 5 := ⟨rfl, inX1, by decide, wA_sub_1 _ (List.mem_of_getElem? (i := 49) (by decide +kernel))⟩
theorem flX9_107 : FLk RX9 107 1 0 RX1 TX1 5 := ⟨rfl, inX1, by decide, wA_sub_1 _ (List.mem_of_getElem? (i := 46) (by decide +kernel))⟩
theorem flX9_111 : FLk RX9 111 2 0 RX2 TX2 7 := ⟨rfl, inX2, by decide, wA_sub_1 _ (List.mem_of_getElem? (i := 17) (by decide +kernel))⟩
theorem flX9_114 : FLk RX9 114 2 1 RX2 TX2 7 := ⟨rfl, inX2, by decide, wA_sub_1 _ (List.mem_of_getElem? (i := 20) (by decide +kernel))⟩
theorem flX9_117 : FLk RX9 117 2 2 RX2 TX2 7 := ⟨rfl, inX2, by decide, wA_sub_1 _ (List.mem_of_getElem? (i := 23) (by decide +kernel))⟩
theorem flX9_120 : FLk RX9 120 2 3 RX2 TX2 7 := ⟨rfl, inX2, by decide, wA_sub_1 _ (List.mem_of_getElem? (i := 26) (by decide +kernel))⟩
theorem flX9_123 : FLk RX9 123 2 4 RX2 TX2 7 := ⟨rfl, inX2, by decide, wA_sub_1 _ (List.mem_of_getElem? (i := 28) (by decide +kernel))⟩
theorem flX9_126 : FLk RX9 126 2 5 RX2 TX2 7 := ⟨rfl, inX2, by decide, wA_sub_1 _ (List.mem_of_getElem? (i := 31) (by decide +kernel))⟩
theorem flX9_129 : FLk RX9 129 2 6 RX2 TX2 7 := ⟨rfl, inX2, by decide, wA_sub_1 _ (List.mem_of_getElem? (i := 35) (by decide +kernel))⟩
theorem flX9_168 : FLk RX9 168 1 3 RX1 TX1 5 := ⟨rfl, inX1, by decide, wA_sub_1 _ (List.mem_of_getElem? (i := 53) (by decide +kernel))⟩
theorem flX9_171 : FLk RX9 171 8 3 RX8 TX8 6 := ⟨rfl, inX8, by decide, wA_sub_1 _ (List.mem_of_getElem? (i := 83) (by decide +kernel))⟩
theorem flX9_174 : FLk RX9 174 8 2 RX8 TX8 6 := ⟨rfl, inX8, by decide, wA_sub_1 _ (List.mem_of_getElem? (i := 81) (by decide +kernel))⟩
theorem flX9_185 : FLk RX9 185 7 1 RX7 TX7 5 := ⟨rfl, inX7, by decide, wA_sub_2 _ (List.mem_of_getElem? (i := 28) (by decide +kernel))⟩
theorem flX9_188 : FLk RX9 188 8 1 RX8 TX8 6 := ⟨rfl, inX8, by decide, wA_sub_1 _ (List.mem_of_getElem? (i := 79) (by decide +kernel))⟩
theorem flX9_192 : FLk RX9 192 7 0 RX7 TX7 5 := ⟨rfl, inX7, by decide, wA_sub_2 _ (List.mem_of_getElem? (i := 26) (by decide +kernel))⟩
theorem flX9_213 : FLk RX9 213 1 2 RX1 TX1 5 := ⟨rfl, inX1, by decide, wA_sub_1 _ (List.mem_of_getElem? (i := 51) (by decide +kernel))⟩
theorem flX9_226 : FLk RX9 226 1 4 RX1 TX1 5 := ⟨rfl, inX1, by decide, wA_sub_1 _ (List.mem_of_getElem? (i := 55) (by decide +kernel))⟩
theorem flX9_256 : FLk RX9 256 4 0 RX4 TX4 3 := ⟨rfl, inX4, by decide, wA_sub_2 _ (List.mem_of_getElem? (i := 11) (by decide +kernel))⟩
theorem flX9_262 : FLk RX9 262 4 1 RX4 TX4 3 := ⟨rfl, inX4, by decide, wA_sub_2 _ (List.mem_of_getElem? (i := 13) (by decide +kernel))⟩
theorem flX9_292 : FLk RX9 292 6 2 RX6 TX6 6 := ⟨rfl, inX6, by decide, wA_sub_2 _ (List.mem_of_getElem? (i := 47) (by decide +kernel))⟩
theorem flX9_296 : FLk RX9 296 6 1 RX6 TX6 6 := ⟨rfl, inX6, by decide, wA_sub_2 _ (List.mem_of_getElem? (i := 45) (by decide +kernel))⟩
theorem flX9_299 : FLk RX9 299 6 0 RX6 TX6 6 := ⟨rfl, inX6, by decide, wA_sub_2 _ (List.mem_of_getElem? (i := 43) (by decide +kernel))⟩
theorem flX9_306 : FLk RX9 306 5 2 RX5 TX5 3 := ⟨rfl, inX5, by decide, wA_sub_2 _ (List.mem_of_getElem? (i := 67) (by decide +kernel))⟩
theorem flX9_310 : FLk RX9 310 5 1 RX5 TX5 3 := ⟨rfl, inX5, by decide, wA_sub_2 _ (List.mem_of_getElem? (i := 65) (by decide +kernel))⟩
theorem flX9_316 : FLk RX9 316 5 0 RX5 TX5 3 := ⟨rfl, inX5, by decide, wA_sub_2 _ (List.mem_of_getElem? (i := 63) (by decide +kernel))⟩
theorem flX9_334 : FLk RX9 334 9 2 RX9 TX9 12 := ⟨rfl, inX9, by decide, wA_sub_2 _ (List.mem_of_getElem? (i := 73) (by decide +kernel))⟩
theorem flX9_337 : FLk RX9 337 8 5 RX8 TX8 6 := ⟨rfl, inX8, by decide, wA_sub_1 _ (List.mem_of_getElem? (i := 87) (by decide +kernel))⟩
theorem flX9_340 : FLk RX9 340 8 4 RX8 TX8 6 := ⟨rfl, inX8, by decide, wA_sub_1 _ (List.mem_of_getElem? (i := 85) (by decide +kernel))⟩
theorem flX0_9 : FLk RX0 9 0 0 RX0 TX0 1 := ⟨rfl, inX0, by decide, wA_sub_2 _ (List.mem_of_getElem? (i := 2) (by decide +kernel))⟩
theorem flX0_15 : FLk RX0 15 1 1 RX1 TX1 5 := ⟨rfl, inX1, by decide, wA_sub_1 _ (List.mem_of_getElem? (i := 48) (by decide +kernel))⟩
theorem flX0_21 : FLk RX0 21 1 0 RX1 TX1 5 := ⟨rfl, inX1, by decide, wA_sub_1 _ (List.mem_of_getElem? (i := 45) (by decide +kernel))⟩
theorem flX0_25 : FLk RX0 25 2 6 RX2 TX2 7 := ⟨rfl, inX2, by decide, wA_sub_1 _ (List.mem_of_getElem? (i := 33) (by decide +kernel))⟩
theorem flX1_11 : FLk RX1 11 1 0 RX1 TX1 5 := ⟨rfl, inX1, by decide, wA_sub_1 _ (List.mem_of_getElem? (i := 44) (by decide +kernel))⟩
theorem flX1_17 : FLk RX1 17 1 3 RX1 TX1 5 := ⟨rfl, inX1, by decide, wA_sub_1 _ (List.mem_of_getElem? (i := 52) (by decide +kernel))⟩
theorem flX1_21 : FLk RX1 21 1 4 RX1 TX1 5 := ⟨rfl, inX1, by decide, wA_sub_1 _ (List.mem_of_getElem? (i := 54) (by decide +kernel))⟩
theorem flX1_25 : FLk RX1 25 1 1 RX1 TX1 5 := ⟨rfl, inX1, by decide, wA_sub_1 _ (List.mem_of_getElem? (i := 47) (by decide +kernel))⟩
theorem flX1_35 : FLk RX1 35 2 4 RX2 TX2 7 := ⟨rfl, inX2, by decide, wA_sub_1 _ (List.mem_of_getElem? (i := 27) (by decide +kernel))⟩
theorem flX1_38 : FLk RX1 38 2 5 RX2 TX2 7 := ⟨rfl, inX2, by decide, wA_sub_1 _ (List.mem_of_getElem? (i := 30) (by decide +kernel))⟩
theorem flX1_41 : FLk RX1 41 2 6 RX2 TX2 7 := ⟨rfl, inX2, by decide, wA_sub_1 _ (List.mem_of_getElem? (i := 34) (by decide +kernel))⟩
theorem flX1_78 : FLk RX1 78 1 2 RX1 TX1 5 := ⟨rfl, inX1, by decide, wA_sub_1 _ (List.mem_of_getElem? (i := 50) (by decide +kernel))⟩
theorem flX2_9 : FLk RX2 9 2 2 RX2 TX2 7 := ⟨rfl, inX2, by decide, wA_sub_1 _ (List.mem_of_getElem? (i := 21) (by decide +kernel))⟩
theorem flX2_15 : FLk RX2 15 2 0 RX2 TX2 7 := ⟨rfl, inX2, by decide, wA_sub_1 _ (List.mem_of_getElem? (i := 15) (by decide +kernel))⟩
theorem flX2_18 : FLk RX2 18 2 1 RX2 TX2 7 := ⟨rfl, inX2, by decide, wA_sub_1 _ (List.mem_of_getElem? (i := 18) (by decide +kernel))⟩
theorem flX2_21 : FLk RX2 21 2 3 RX2 TX2 7 := ⟨rfl, inX2, by decide, wA_sub_1 _ (List.mem_of_getElem? (i := 25) (by decide +kernel))⟩
theorem flX2_36 : FLk RX2 36 2 4 RX2 TX2 7 := ⟨rfl, inX2, by decide, wA_sub_1 _ (List.mem_of_getElem? (i := 29) (by decide +kernel))⟩
theorem flX2_39 : FLk RX2 39 2 5 RX2 TX2 7 := ⟨rfl, inX2, by decide, wA_sub_1 _ (List.mem_of_getElem? (i := 32) (by decide +kernel))⟩
theorem flX2_48 : FLk RX2 48 2 6 RX2 TX2 7 := ⟨rfl, inX2, by decide, wA_sub_1 _ (List.mem_of_getElem? (i := 36) (by decide +kernel))⟩
theorem flX3_9 : FLk RX3 9 3 0 RX3 TX3 4 := ⟨rfl, inX3, by decide, wA_sub_1 _ (List.mem_of_getElem? (i := 66) (by decide +kernel))⟩
theorem flX3_15 : FLk RX3 15 3 2 RX3 TX3 4 := ⟨rfl, inX3, by decide, wA_sub_1 _ (List.mem_of_getElem? (i := 68) (by decide +kernel))⟩
theorem flX3_18 : FLk RX3 18 3 1 RX3 TX3 4 := ⟨rfl, inX3, by decide, wA_sub_1 _ (List.mem_of_getElem? (i := 67) (by decide +kernel))⟩
theorem flX3_28 : FLk RX3 28 3 3 RX3 TX3 4 := ⟨rfl, inX3, by decide, wA_sub_1 _ (List.mem_of_getElem? (i := 69) (by decide +kernel))⟩
theorem flX4_7 : FLk RX4 7 4 0 RX4 TX4 3 := ⟨rfl, inX4, by decide, wA_sub_2 _ (List.mem_of_getElem? (i := 10) (by decide +kernel))⟩
theorem flX4_13 : FLk RX4 13 4 1 RX4 TX4 3 := ⟨rfl, inX4, by decide, wA_sub_2 _ (List.mem_of_getElem? (i := 12) (by decide +kernel))⟩
theorem flX4_16 : FLk RX4 16 4 2 RX4 TX4 3 := ⟨rfl, inX4, by decide, wA_sub_2 _ (List.mem_of_getElem? (i := 14) (by decide +kernel))⟩
theorem flX5_9 : FLk RX5 9 5 0 RX5 TX5 3 := ⟨rfl, inX5, by decide, wA_sub_2 _ (List.mem_of_getElem? (i := 62) (by decide +kernel))⟩
theorem flX5_15 : FLk RX5 15 5 1 RX5 TX5 3 := ⟨rfl, inX5, by decide, wA_sub_2 _ (List.mem_of_getElem? (i := 64) (by decide +kernel))⟩
theorem flX5_19 : FLk RX5 19 5 2 RX5 TX5 3 := ⟨rfl, inX5, by decide, wA_sub_2 _ (List.mem_of_getElem? (i := 66) (by decide +kernel))⟩
theorem flX6_9 : FLk RX6 9 6 0 RX6 TX6 6 := ⟨rfl, inX6, by decide, wA_sub_2 _ (List.mem_of_getElem? (i := 42) (by decide +kernel))⟩
theorem flX6_15 : FLk RX6 15 6 2 RX6 TX6 6 := ⟨rfl, inX6, by decide, wA_sub_2 _ (List.mem_of_getElem? (i := 46) (by decide +kernel))⟩
theorem flX6_19 : FLk RX6 19 6 1 RX6 TX6 6 := ⟨rfl, inX6, by decide, wA_sub_2 _ (List.mem_of_getElem? (i := 44) (by decide +kernel))⟩
theorem flX6_23 : FLk RX6 23 2 0 RX2 TX2 7 := ⟨rfl, inX2, by decide, wA_sub_1 _ (List.mem_of_getElem? (i := 16) (by decide +kernel))⟩
theorem flX6_28 : FLk RX6 28 6 3 RX6 TX6 6 := ⟨rfl, inX6, by decide, wA_sub_2 _ (List.mem_of_getElem? (i := 48) (by decide +kernel))⟩
theorem flX6_29 : FLk RX6 29 6 4 RX6 TX6 6 := ⟨rfl, inX6, by decide, wA_sub_2 _ (List.mem_of_getElem? (i := 49) (by decide +kernel))⟩
theorem flX6_32 : FLk RX6 32 2 1 RX2 TX2 7 := ⟨rfl, inX2, by decide, wA_sub_1 _ (List.mem_of_getElem? (i := 19) (by decide +kernel))⟩
theorem flX6_35 : FLk RX6 35 6 5 RX6 TX6 6 := ⟨rfl, inX6, by decide, wA_sub_2 _ (List.mem_of_getElem? (i := 50) (by decide +kernel))⟩
theorem flX7_12 : FLk RX7 12 7 0 RX7 TX7 5 := ⟨rfl, inX7, by decide, wA_sub_2 _ (List.mem_of_getElem? (i := 25) (by decide +kernel))⟩
theorem flX7_18 : FLk RX7 18 7 2 RX7 TX7 5 := ⟨rfl, inX7, by decide, wA_sub_2 _ (List.mem_of_getElem? (i := 29) (by decide +kernel))⟩
theorem flX7_22 : FLk RX7 22 7 3 RX7 TX7 5 := ⟨rfl, inX7, by decide, wA_sub_2 _ (List.mem_of_getElem? (i := 30) (by decide +kernel))⟩
theorem flX7_26 : FLk RX7 26 7 4 RX7 TX7 5 := ⟨rfl, inX7, by decide, wA_sub_2 _ (List.mem_of_getElem? (i := 31) (by decide +kernel))⟩
theorem flX7_29 : FLk RX7 29 7 1 RX7 TX7 5 := ⟨rfl, inX7, by decide, wA_sub_2 _ (List.mem_of_getElem? (i := 27) (by decide +kernel))⟩
theorem sfX7_70 : Cond.fieldLink RX7 70 "FurrowTalk$TextReader" "NAMES" "[C" ∈ wA := wA_sub_4 _ (List.mem_of_getElem? (i := 69) (by decide +kernel))
theorem flX8_12 : FLk RX8 12 8 0 RX8 TX8 6 := ⟨rfl, inX8, by decide, wA_sub_1 _ (List.mem_of_getElem? (i := 76) (by decide +kernel))⟩
theorem flX8_20 : FLk RX8 20 8 1 RX8 TX8 6 := ⟨rfl, inX8, by decide, wA_sub_1 _ (List.mem_of_getElem? (i := 78) (by decide +kernel))⟩
theorem flX8_24 : FLk RX8 24 8 2 RX8 TX8 6 := ⟨rfl, inX8, by decide, wA_sub_1 _ (List.mem_of_getElem? (i := 80) (by decide +kernel))⟩
theorem flX8_28 : FLk RX8 28 8 4 RX8 TX8 6 := ⟨rfl, inX8, by decide, wA_sub_1 _ (List.mem_of_getElem? (i := 84) (by decide +kernel))⟩
theorem flX8_44 : FLk RX8 44 2 2 RX2 TX2 7 := ⟨rfl, inX2, by decide, wA_sub_1 _ (List.mem_of_getElem? (i := 22) (by decide +kernel))⟩
theorem flX8_50 : FLk RX8 50 2 3 RX2 TX2 7 := ⟨rfl, inX2, by decide, wA_sub_1 _ (List.mem_of_getElem? (i := 24) (by decide +kernel))⟩
theorem flX8_68 : FLk RX8 68 8 3 RX8 TX8 6 := ⟨rfl, inX8, by decide, wA_sub_1 _ (List.mem_of_getElem? (i := 82) (by decide +kernel))⟩
theorem flX8_77 : FLk RX8 77 8 5 RX8 TX8 6 := ⟨rfl, inX8, by decide, wA_sub_1 _ (List.mem_of_getElem? (i := 86) (by decide +kernel))⟩
theorem flX10_9 : FLk RX10 9 10 0 RX10 TX10 21 := ⟨rfl, inX10, by decide, wA_sub_7 _ (List.mem_of_getElem? (i := 54) (by decide +kernel))⟩
theorem flX10_13 : FLk RX10 13 10 1 RX10 TX10 21 := ⟨rfl, inX10, by decide, wA_sub_7 _ (List.mem_of_getElem? (i := 55) (by decide +kernel))⟩
theorem flX10_16 : FLk RX10 16 10 2 RX10 TX10 21 := ⟨rfl, inX10, by decide, wA_sub_7 _ (List.mem_of_getElem? (i := 56) (by decide +kernel))⟩
theorem flX10_19 : FLk RX10 19 10 4 RX10 TX10 21 := ⟨rfl, inX10, by decide, wA_sub_7 _ (List.mem_of_getElem? (i := 58) (by decide +kernel))⟩
theorem flX10_22 : FLk RX10 22 10 5 RX10 TX10 21 := ⟨rfl, inX10, by decide, wA_sub_7 _ (List.mem_of_getElem? (i := 59) (by decide +kernel))⟩
theorem flX10_25 : FLk RX10 25 10 6 RX10 TX10 21 := ⟨rfl, inX10, by decide, wA_sub_7 _ (List.mem_of_getElem? (i := 60) (by decide +kernel))⟩
theorem flX10_28 : FLk RX10 28 10 7 RX10 TX10 21 := ⟨rfl, inX10, by decide, wA_sub_7 _ (List.mem_of_getElem? (i := 61) (by decide +kernel))⟩
theorem flX10_31 : FLk RX10 31 10 8 RX10 TX10 21 := ⟨rfl, inX10, by decide, wA_sub_7 _ (List.mem_of_getElem? (i := 62) (by decide +kernel))⟩
theorem flX10_34 : FLk RX10 34 10 9 RX10 TX10 21 := ⟨rfl, inX10, by decide, wA_sub_7 _ (List.mem_of_getElem? (i := 63) (by decide +kernel))⟩
theorem flX10_37 : FLk RX10 37 10 10 RX10 TX10 21 := ⟨rfl, inX10, by decide, wA_sub_7 _ (List.mem_of_getElem? (i := 64) (by decide +kernel))⟩
theorem flX10_40 : FLk RX10 40 10 11 RX10 TX10 21 := ⟨rfl, inX10, by decide, wA_sub_7 _ (List.mem_of_getElem? (i := 65) (by decide +kernel))⟩
theorem flX10_43 : FLk RX10 43 10 17 RX10 TX10 21 := ⟨rfl, inX10, by decide, wA_sub_7 _ (List.mem_of_getElem? (i := 71) (by decide +kernel))⟩
theorem flX10_46 : FLk RX10 46 10 18 RX10 TX10 21 := ⟨rfl, inX10, by decide, wA_sub_7 _ (List.mem_of_getElem? (i := 72) (by decide +kernel))⟩
theorem flX10_117 : FLk RX10 117 10 13 RX10 TX10 21 := ⟨rfl, inX10, by decide, wA_sub_7 _ (List.mem_of_getElem? (i := 67) (by decide +kernel))⟩
theorem flX10_121 : FLk RX10 121 10 12 RX10 TX10 21 := ⟨rfl, inX10, by decide, wA_sub_7 _ (List.mem_of_getElem? (i := 66) (by decide +kernel))⟩
theorem flX10_124 : FLk RX10 124 10 16 RX10 TX10 21 := ⟨rfl, inX10, by decide, wA_sub_7 _ (List.mem_of_getElem? (i := 70) (by decide +kernel))⟩
theorem flX10_131 : FLk RX10 131 10 15 RX10 TX10 21 := ⟨rfl, inX10, by decide, wA_sub_7 _ (List.mem_of_getElem? (i := 69) (by decide +kernel))⟩
theorem flX10_139 : FLk RX10 139 10 14 RX10 TX10 21 := ⟨rfl, inX10, by decide, wA_sub_7 _ (List.mem_of_getElem? (i := 68) (by decide +kernel))⟩
theorem flX10_228 : FLk RX10 228 10 19 RX10 TX10 21 := ⟨rfl, inX10, by decide, wA_sub_7 _ (List.mem_of_getElem? (i := 73) (by decide +kernel))⟩
theorem flX10_255 : FLk RX10 255 10 20 RX10 TX10 21 := ⟨rfl, inX10, by decide, wA_sub_7 _ (List.mem_of_getElem? (i := 74) (by decide +kernel))⟩
theorem flX10_275 : FLk RX10 275 10 3 RX10 TX10 21 := ⟨rfl, inX10, by decide, wA_sub_7 _ (List.mem_of_getElem? (i := 57) (by decide +kernel))⟩
theorem mlX9_init : MLk yX9_init cX9_init 2 none 0 := ⟨wA_sub_0 _ (List.mem_of_getElem? (i := 94) (by decide +kernel)), wA_sub_0 _ (List.mem_of_getElem? (i := 76) (by decide +kernel)), by decide +kernel, by decide +kernel, by decide +kernel⟩
theorem imX9_init : Cond.instanceMethod yX9_init ∈ wA := wA_sub_0 _ (List.mem_of_getElem? (i := 93) (by decide +kernel))
theorem mlX8_init : MLk yX8_init cX8_init 2 none 0 := ⟨wA_sub_1 _ (List.mem_of_getElem? (i := 2) (by decide +kernel)), wA_sub_0 _ (List.mem_of_getElem? (i := 77) (by decide +kernel)), by decide +kernel, by decide +kernel, by decide +kernel⟩
theorem imX8_init : Cond.instanceMethod yX8_init ∈ wA := wA_sub_1 _ (List.mem_of_getElem? (i := 1) (by decide +kernel))
theorem mlX1_init : MLk yX1_init cX1_init 2 none 0 := ⟨wA_sub_1 _ (List.mem_of_getElem? (i := 8) (by decide +kernel)), wA_sub_0 _ (List.mem_of_getElem? (i := 78) (by decide +kernel)), by decide +kernel, by decide +kernel, by decide +kernel⟩
theorem imX1_init : Cond.instanceMethod yX1_init ∈ wA := wA_sub_1 _ (List.mem_of_getElem? (i := 7) (by decide +kernel))
theorem mlX2_init : MLk yX2_init cX2_init 1 none 0 := ⟨wA_sub_1 _ (List.mem_of_getElem? (i := 13) (by decide +kernel)), wA_sub_0 _ (List.mem_of_getElem? (i := 79) (by decide +kernel)), by decide +kernel, by decide +kernel, by decide +kernel⟩
theorem imX2_init : Cond.instanceMethod yX2_init ∈ wA := wA_sub_1 _ (List.mem_of_getElem? (i := 12) (by decide +kernel))
theorem mlX3_init : MLk yX3_init cX3_init 1 none 0 := ⟨wA_sub_1 _ (List.mem_of_getElem? (i := 64) (by decide +kernel)), wA_sub_0 _ (List.mem_of_getElem? (i := 80) (by decide +kernel)), by decide +kernel, by decide +kernel, by decide +kernel⟩
theorem imX3_init : Cond.instanceMethod yX3_init ∈ wA := wA_sub_1 _ (List.mem_of_getElem? (i := 63) (by decide +kernel))
theorem mlX0_init : MLk yX0_init cX0_init 1 none 0 := ⟨wA_sub_2 _ (List.mem_of_getElem? (i := 0) (by decide +kernel)), wA_sub_0 _ (List.mem_of_getElem? (i := 81) (by decide +kernel)), by decide +kernel, by decide +kernel, by decide +kernel⟩
theorem imX0_init : Cond.instanceMethod yX0_init ∈ wA := wA_sub_1 _ (List.mem_of_getElem? (i := 99) (by decide +kernel))
theorem mlX4_init : MLk yX4_init cX4_init 2 none 1 := ⟨wA_sub_2 _ (List.mem_of_getElem? (i := 8) (by decide +kernel)), wA_sub_0 _ (List.mem_of_getElem? (i := 82) (by decide +kernel)), by decide +kernel, by decide +kernel, by decide +kernel⟩
theorem imX4_init : Cond.instanceMethod yX4_init ∈ wA := wA_sub_2 _ (List.mem_of_getElem? (i := 7) (by decide +kernel))
theorem mlX7_init : MLk yX7_init cX7_init 1 none 0 := ⟨wA_sub_2 _ (List.mem_of_getElem? (i := 22) (by decide +kernel)), wA_sub_0 _ (List.mem_of_getElem? (i := 83) (by decide +kernel)), by decide +kernel, by decide +kernel, by decide +kernel⟩
theorem imX7_init : Cond.instanceMethod yX7_init ∈ wA := wA_sub_2 _ (List.mem_of_getElem? (i := 21) (by decide +kernel))
theorem mlX6_init : MLk yX6_init cX6_init 1 none 0 := ⟨wA_sub_2 _ (List.mem_of_getElem? (i := 40) (by decide +kernel)), wA_sub_0 _ (List.mem_of_getElem? (i := 84) (by decide +kernel)), by decide +kernel, by decide +kernel, by decide +kernel⟩
theorem imX6_init : Cond.instanceMethod yX6_init ∈ wA := wA_sub_2 _ (List.mem_of_getElem? (i := 39) (by decide +kernel))
theorem mlX5_init : MLk yX5_init cX5_init 1 none 0 := ⟨wA_sub_2 _ (List.mem_of_getElem? (i := 60) (by decide +kernel)), wA_sub_0 _ (List.mem_of_getElem? (i := 85) (by decide +kernel)), by decide +kernel, by decide +kernel, by decide +kernel⟩
theorem imX5_init : Cond.instanceMethod yX5_init ∈ wA := wA_sub_2 _ (List.mem_of_getElem? (i := 59) (by decide +kernel))
theorem mlX9_plough : MLk yX9_plough cX9_plough 4 (some .int) 3 := ⟨wA_sub_2 _ (List.mem_of_getElem? (i := 98) (by decide +kernel)), wA_sub_0 _ (List.mem_of_getElem? (i := 76) (by decide +kernel)), by decide +kernel, by decide +kernel, by decide +kernel⟩
theorem vlX9_plough : VLk yX9_plough := ⟨wA_sub_2 _ (List.mem_of_getElem? (i := 96) (by decide +kernel)), wA_sub_2 _ (List.mem_of_getElem? (i := 97) (by decide +kernel))⟩
theorem mlX9_isKindWithNumber : MLk yX9_isKindWithNumber cX9_isKindWithNumber 1 (some .boolean) 1 := ⟨wA_sub_3 _ (List.mem_of_getElem? (i := 1) (by decide +kernel)), wA_sub_0 _ (List.mem_of_getElem? (i := 76) (by decide +kernel)), by decide +kernel, by decide +kernel, by decide +kernel⟩
theorem skX9_isKindWithNumber : Cond.static yX9_isKindWithNumber ∈ wA := wA_sub_3 _ (List.mem_of_getElem? (i := 0) (by decide +kernel))
theorem mlX9_isLine : MLk yX9_isLine cX9_isLine 1 (some .boolean) 1 := ⟨wA_sub_3 _ (List.mem_of_getElem? (i := 4) (by decide +kernel)), wA_sub_0 _ (List.mem_of_getElem? (i := 76) (by decide +kernel)), by decide +kernel, by decide +kernel, by decide +kernel⟩
theorem skX9_isLine : Cond.static yX9_isLine ∈ wA := wA_sub_3 _ (List.mem_of_getElem? (i := 3) (by decide +kernel))
theorem mlX9_isHand : MLk yX9_isHand cX9_isHand 1 (some .boolean) 1 := ⟨wA_sub_3 _ (List.mem_of_getElem? (i := 7) (by decide +kernel)), wA_sub_0 _ (List.mem_of_getElem? (i := 76) (by decide +kernel)), by decide +kernel, by decide +kernel, by decide +kernel⟩
theorem skX9_isHand : Cond.static yX9_isHand ∈ wA := wA_sub_3 _ (List.mem_of_getElem? (i := 6) (by decide +kernel))
theorem mlX9_refuse : MLk yX9_refuse cX9_refuse 3 (some .int) 1 := ⟨wA_sub_3 _ (List.mem_of_getElem? (i := 11) (by decide +kernel)), wA_sub_0 _ (List.mem_of_getElem? (i := 76) (by decide +kernel)), by decide +kernel, by decide +kernel, by decide +kernel⟩
theorem vlX9_refuse : VLk yX9_refuse := ⟨wA_sub_3 _ (List.mem_of_getElem? (i := 10) (by decide +kernel)), wA_sub_0 _ (List.mem_of_getElem? (i := 0) (by decide +kernel))⟩
theorem mlX1_add : MLk yX1_add cX1_add 5 (some .int) 3 := ⟨wA_sub_3 _ (List.mem_of_getElem? (i := 17) (by decide +kernel)), wA_sub_0 _ (List.mem_of_getElem? (i := 78) (by decide +kernel)), by decide +kernel, by decide +kernel, by decide +kernel⟩
theorem vlX1_add : VLk yX1_add := ⟨wA_sub_3 _ (List.mem_of_getElem? (i := 15) (by decide +kernel)), wA_sub_3 _ (List.mem_of_getElem? (i := 16) (by decide +kernel))⟩
theorem mlX2_setKindAndNumber : MLk yX2_setKindAndNumber cX2_setKindAndNumber 2 none 1 := ⟨wA_sub_3 _ (List.mem_of_getElem? (i := 21) (by decide +kernel)), wA_sub_0 _ (List.mem_of_getElem? (i := 79) (by decide +kernel)), by decide +kernel, by decide +kernel, by decide +kernel⟩
theorem vlX2_setKindAndNumber : VLk yX2_setKindAndNumber := ⟨wA_sub_3 _ (List.mem_of_getElem? (i := 19) (by decide +kernel)), wA_sub_3 _ (List.mem_of_getElem? (i := 20) (by decide +kernel))⟩
theorem mlX2_setLine : MLk yX2_setLine cX2_setLine 2 none 1 := ⟨wA_sub_3 _ (List.mem_of_getElem? (i := 25) (by decide +kernel)), wA_sub_0 _ (List.mem_of_getElem? (i := 79) (by decide +kernel)), by decide +kernel, by decide +kernel, by decide +kernel⟩
theorem vlX2_setLine : VLk yX2_setLine := ⟨wA_sub_3 _ (List.mem_of_getElem? (i := 23) (by decide +kernel)), wA_sub_3 _ (List.mem_of_getElem? (i := 24) (by decide +kernel))⟩
theorem mlX9_furrowIs : MLk yX9_furrowIs cX9_furrowIs 4 (some .int) 2 := ⟨wA_sub_3 _ (List.mem_of_getElem? (i := 29) (by decide +kernel)), wA_sub_0 _ (List.mem_of_getElem? (i := 76) (by decide +kernel)), by decide +kernel, by decide +kernel, by decide +kernel⟩
theorem vlX9_furrowIs : VLk yX9_furrowIs := ⟨wA_sub_3 _ (List.mem_of_getElem? (i := 27) (by decide +kernel)), wA_sub_3 _ (List.mem_of_getElem? (i := 28) (by decide +kernel))⟩
theorem mlX9_isFurrow : MLk yX9_isFurrow cX9_isFurrow 2 (some .boolean) 1 := ⟨wA_sub_3 _ (List.mem_of_getElem? (i := 32) (by decide +kernel)), wA_sub_0 _ (List.mem_of_getElem? (i := 76) (by decide +kernel)), by decide +kernel, by decide +kernel, by decide +kernel⟩
theorem vlX9_isFurrow : VLk yX9_isFurrow := ⟨wA_sub_3 _ (List.mem_of_getElem? (i := 31) (by decide +kernel)), wA_sub_0 _ (List.mem_of_getElem? (i := 1) (by decide +kernel))⟩
theorem mlX9_asNumber : MLk yX9_asNumber cX9_asNumber 1 (some .int) 1 := ⟨wA_sub_3 _ (List.mem_of_getElem? (i := 35) (by decide +kernel)), wA_sub_0 _ (List.mem_of_getElem? (i := 76) (by decide +kernel)), by decide +kernel, by decide +kernel, by decide +kernel⟩
theorem skX9_asNumber : Cond.static yX9_asNumber ∈ wA := wA_sub_3 _ (List.mem_of_getElem? (i := 34) (by decide +kernel))
theorem mlX2_depth : MLk yX2_depth cX2_depth 1 (some .int) 0 := ⟨wA_sub_3 _ (List.mem_of_getElem? (i := 39) (by decide +kernel)), wA_sub_0 _ (List.mem_of_getElem? (i := 79) (by decide +kernel)), by decide +kernel, by decide +kernel, by decide +kernel⟩
theorem vlX2_depth : VLk yX2_depth := ⟨wA_sub_3 _ (List.mem_of_getElem? (i := 37) (by decide +kernel)), wA_sub_3 _ (List.mem_of_getElem? (i := 38) (by decide +kernel))⟩
theorem mlX8_senseOf : MLk yX8_senseOf cX8_senseOf 2 (some .int) 1 := ⟨wA_sub_3 _ (List.mem_of_getElem? (i := 43) (by decide +kernel)), wA_sub_0 _ (List.mem_of_getElem? (i := 77) (by decide +kernel)), by decide +kernel, by decide +kernel, by decide +kernel⟩
theorem vlX8_senseOf : VLk yX8_senseOf := ⟨wA_sub_3 _ (List.mem_of_getElem? (i := 41) (by decide +kernel)), wA_sub_3 _ (List.mem_of_getElem? (i := 42) (by decide +kernel))⟩
theorem mlX8_giveUse : MLk yX8_giveUse cX8_giveUse 6 (some .int) 4 := ⟨wA_sub_3 _ (List.mem_of_getElem? (i := 48) (by decide +kernel)), wA_sub_0 _ (List.mem_of_getElem? (i := 77) (by decide +kernel)), by decide +kernel, by decide +kernel, by decide +kernel⟩
theorem vlX8_giveUse : VLk yX8_giveUse := ⟨wA_sub_3 _ (List.mem_of_getElem? (i := 46) (by decide +kernel)), wA_sub_3 _ (List.mem_of_getElem? (i := 47) (by decide +kernel))⟩
theorem mlX3_isGiven : MLk yX3_isGiven cX3_isGiven 1 (some .boolean) 0 := ⟨wA_sub_3 _ (List.mem_of_getElem? (i := 52) (by decide +kernel)), wA_sub_0 _ (List.mem_of_getElem? (i := 80) (by decide +kernel)), by decide +kernel, by decide +kernel, by decide +kernel⟩
theorem vlX3_isGiven : VLk yX3_isGiven := ⟨wA_sub_3 _ (List.mem_of_getElem? (i := 50) (by decide +kernel)), wA_sub_3 _ (List.mem_of_getElem? (i := 51) (by decide +kernel))⟩
theorem mlX3_workOut : MLk yX3_workOut cX3_workOut 7 (some .int) 3 := ⟨wA_sub_3 _ (List.mem_of_getElem? (i := 56) (by decide +kernel)), wA_sub_0 _ (List.mem_of_getElem? (i := 80) (by decide +kernel)), by decide +kernel, by decide +kernel, by decide +kernel⟩
theorem vlX3_workOut : VLk yX3_workOut := ⟨wA_sub_3 _ (List.mem_of_getElem? (i := 54) (by decide +kernel)), wA_sub_3 _ (List.mem_of_getElem? (i := 55) (by decide +kernel))⟩
theorem mlX3_push : MLk yX3_push cX3_push 2 none 1 := ⟨wA_sub_3 _ (List.mem_of_getElem? (i := 59) (by decide +kernel)), wA_sub_0 _ (List.mem_of_getElem? (i := 80) (by decide +kernel)), by decide +kernel, by decide +kernel, by decide +kernel⟩
theorem vlX3_push : VLk yX3_push := ⟨wA_sub_3 _ (List.mem_of_getElem? (i := 58) (by decide +kernel)), wA_sub_0 _ (List.mem_of_getElem? (i := 2) (by decide +kernel))⟩
theorem mlX3_pop : MLk yX3_pop cX3_pop 1 (some .int) 0 := ⟨wA_sub_3 _ (List.mem_of_getElem? (i := 62) (by decide +kernel)), wA_sub_0 _ (List.mem_of_getElem? (i := 80) (by decide +kernel)), by decide +kernel, by decide +kernel, by decide +kernel⟩
theorem vlX3_pop : VLk yX3_pop := ⟨wA_sub_3 _ (List.mem_of_getElem? (i := 61) (by decide +kernel)), wA_sub_0 _ (List.mem_of_getElem? (i := 3) (by decide +kernel))⟩
theorem mlX3_join : MLk yX3_join cX3_join 3 (some .int) 3 := ⟨wA_sub_3 _ (List.mem_of_getElem? (i := 65) (by decide +kernel)), wA_sub_0 _ (List.mem_of_getElem? (i := 80) (by decide +kernel)), by decide +kernel, by decide +kernel, by decide +kernel⟩
theorem skX3_join : Cond.static yX3_join ∈ wA := wA_sub_3 _ (List.mem_of_getElem? (i := 64) (by decide +kernel))
theorem mlX9_hold : MLk yX9_hold cX9_hold 3 (some .int) 3 := ⟨wA_sub_3 _ (List.mem_of_getElem? (i := 67) (by decide +kernel)), wA_sub_0 _ (List.mem_of_getElem? (i := 76) (by decide +kernel)), by decide +kernel, by decide +kernel, by decide +kernel⟩
theorem skX9_hold : Cond.static yX9_hold ∈ wA := wA_sub_3 _ (List.mem_of_getElem? (i := 66) (by decide +kernel))
theorem mlX1_isHeard : MLk yX1_isHeard cX1_isHeard 3 (some .boolean) 1 := ⟨wA_sub_3 _ (List.mem_of_getElem? (i := 77) (by decide +kernel)), wA_sub_0 _ (List.mem_of_getElem? (i := 78) (by decide +kernel)), by decide +kernel, by decide +kernel, by decide +kernel⟩
theorem vlX1_isHeard : VLk yX1_isHeard := ⟨wA_sub_3 _ (List.mem_of_getElem? (i := 75) (by decide +kernel)), wA_sub_3 _ (List.mem_of_getElem? (i := 76) (by decide +kernel))⟩
theorem mlX1_echoes : MLk yX1_echoes cX1_echoes 3 (some .boolean) 2 := ⟨wA_sub_3 _ (List.mem_of_getElem? (i := 81) (by decide +kernel)), wA_sub_0 _ (List.mem_of_getElem? (i := 78) (by decide +kernel)), by decide +kernel, by decide +kernel, by decide +kernel⟩
theorem vlX1_echoes : VLk yX1_echoes := ⟨wA_sub_3 _ (List.mem_of_getElem? (i := 79) (by decide +kernel)), wA_sub_3 _ (List.mem_of_getElem? (i := 80) (by decide +kernel))⟩
theorem mlX2_echoes : MLk yX2_echoes cX2_echoes 2 (some .boolean) 1 := ⟨wA_sub_3 _ (List.mem_of_getElem? (i := 85) (by decide +kernel)), wA_sub_0 _ (List.mem_of_getElem? (i := 79) (by decide +kernel)), by decide +kernel, by decide +kernel, by decide +kernel⟩
theorem vlX2_echoes : VLk yX2_echoes := ⟨wA_sub_3 _ (List.mem_of_getElem? (i := 83) (by decide +kernel)), wA_sub_3 _ (List.mem_of_getElem? (i := 84) (by decide +kernel))⟩
theorem mlX2_isAlike : MLk yX2_isAlike cX2_isAlike 2 (some .boolean) 1 := ⟨wA_sub_3 _ (List.mem_of_getElem? (i := 88) (by decide +kernel)), wA_sub_0 _ (List.mem_of_getElem? (i := 79) (by decide +kernel)), by decide +kernel, by decide +kernel, by decide +kernel⟩
theorem vlX2_isAlike : VLk yX2_isAlike := ⟨wA_sub_3 _ (List.mem_of_getElem? (i := 87) (by decide +kernel)), wA_sub_0 _ (List.mem_of_getElem? (i := 4) (by decide +kernel))⟩
theorem mlX9_become : MLk yX9_become cX9_become 5 (some .int) 2 := ⟨wA_sub_3 _ (List.mem_of_getElem? (i := 92) (by decide +kernel)), wA_sub_0 _ (List.mem_of_getElem? (i := 76) (by decide +kernel)), by decide +kernel, by decide +kernel, by decide +kernel⟩
theorem vlX9_become : VLk yX9_become := ⟨wA_sub_3 _ (List.mem_of_getElem? (i := 90) (by decide +kernel)), wA_sub_3 _ (List.mem_of_getElem? (i := 91) (by decide +kernel))⟩
theorem mlX9_as : MLk yX9_as cX9_as 4 (some .int) 2 := ⟨wA_sub_3 _ (List.mem_of_getElem? (i := 97) (by decide +kernel)), wA_sub_0 _ (List.mem_of_getElem? (i := 76) (by decide +kernel)), by decide +kernel, by decide +kernel, by decide +kernel⟩
theorem vlX9_as : VLk yX9_as := ⟨wA_sub_3 _ (List.mem_of_getElem? (i := 95) (by decide +kernel)), wA_sub_3 _ (List.mem_of_getElem? (i := 96) (by decide +kernel))⟩
theorem mlX9_isKind : MLk yX9_isKind cX9_isKind 1 (some .boolean) 1 := ⟨wA_sub_4 _ (List.mem_of_getElem? (i := 0) (by decide +kernel)), wA_sub_0 _ (List.mem_of_getElem? (i := 76) (by decide +kernel)), by decide +kernel, by decide +kernel, by decide +kernel⟩
theorem skX9_isKind : Cond.static yX9_isKind ∈ wA := wA_sub_3 _ (List.mem_of_getElem? (i := 99) (by decide +kernel))
theorem mlX2_isOfKind : MLk yX2_isOfKind cX2_isOfKind 4 (some .boolean) 1 := ⟨wA_sub_4 _ (List.mem_of_getElem? (i := 4) (by decide +kernel)), wA_sub_0 _ (List.mem_of_getElem? (i := 79) (by decide +kernel)), by decide +kernel, by decide +kernel, by decide +kernel⟩
theorem vlX2_isOfKind : VLk yX2_isOfKind := ⟨wA_sub_4 _ (List.mem_of_getElem? (i := 2) (by decide +kernel)), wA_sub_4 _ (List.mem_of_getElem? (i := 3) (by decide +kernel))⟩
theorem mlX9_answers : MLk yX9_answers cX9_answers 3 (some .int) 2 := ⟨wA_sub_4 _ (List.mem_of_getElem? (i := 9) (by decide +kernel)), wA_sub_0 _ (List.mem_of_getElem? (i := 76) (by decide +kernel)), by decide +kernel, by decide +kernel, by decide +kernel⟩
theorem vlX9_answers : VLk yX9_answers := ⟨wA_sub_4 _ (List.mem_of_getElem? (i := 7) (by decide +kernel)), wA_sub_4 _ (List.mem_of_getElem? (i := 8) (by decide +kernel))⟩
theorem mlX9_cover : MLk yX9_cover cX9_cover 5 (some .int) 2 := ⟨wA_sub_4 _ (List.mem_of_getElem? (i := 14) (by decide +kernel)), wA_sub_0 _ (List.mem_of_getElem? (i := 76) (by decide +kernel)), by decide +kernel, by decide +kernel, by decide +kernel⟩
theorem vlX9_cover : VLk yX9_cover := ⟨wA_sub_4 _ (List.mem_of_getElem? (i := 12) (by decide +kernel)), wA_sub_4 _ (List.mem_of_getElem? (i := 13) (by decide +kernel))⟩
theorem mlX9_redraw : MLk yX9_redraw cX9_redraw 5 (some .int) 2 := ⟨wA_sub_4 _ (List.mem_of_getElem? (i := 18) (by decide +kernel)), wA_sub_0 _ (List.mem_of_getElem? (i := 76) (by decide +kernel)), by decide +kernel, by decide +kernel, by decide +kernel⟩
theorem vlX9_redraw : VLk yX9_redraw := ⟨wA_sub_4 _ (List.mem_of_getElem? (i := 16) (by decide +kernel)), wA_sub_4 _ (List.mem_of_getElem? (i := 17) (by decide +kernel))⟩
theorem mlX2_line : MLk yX2_line cX2_line 1 (some .int) 0 := ⟨wA_sub_4 _ (List.mem_of_getElem? (i := 22) (by decide +kernel)), wA_sub_0 _ (List.mem_of_getElem? (i := 79) (by decide +kernel)), by decide +kernel, by decide +kernel, by decide +kernel⟩
theorem vlX2_line : VLk yX2_line := ⟨wA_sub_4 _ (List.mem_of_getElem? (i := 20) (by decide +kernel)), wA_sub_4 _ (List.mem_of_getElem? (i := 21) (by decide +kernel))⟩
theorem mlX9_patience : MLk yX9_patience cX9_patience 3 (some .int) 1 := ⟨wA_sub_4 _ (List.mem_of_getElem? (i := 27) (by decide +kernel)), wA_sub_0 _ (List.mem_of_getElem? (i := 76) (by decide +kernel)), by decide +kernel, by decide +kernel, by decide +kernel⟩
theorem vlX9_patience : VLk yX9_patience := ⟨wA_sub_4 _ (List.mem_of_getElem? (i := 25) (by decide +kernel)), wA_sub_4 _ (List.mem_of_getElem? (i := 26) (by decide +kernel))⟩
theorem mlX9_feed : MLk yX9_feed cX9_feed 5 (some .int) 2 := ⟨wA_sub_4 _ (List.mem_of_getElem? (i := 31) (by decide +kernel)), wA_sub_0 _ (List.mem_of_getElem? (i := 76) (by decide +kernel)), by decide +kernel, by decide +kernel, by decide +kernel⟩
theorem vlX9_feed : VLk yX9_feed := ⟨wA_sub_4 _ (List.mem_of_getElem? (i := 29) (by decide +kernel)), wA_sub_4 _ (List.mem_of_getElem? (i := 30) (by decide +kernel))⟩
theorem mlX9_text : MLk yX9_text cX9_text 3 (some .int) 1 := ⟨wA_sub_4 _ (List.mem_of_getElem? (i := 35) (by decide +kernel)), wA_sub_0 _ (List.mem_of_getElem? (i := 76) (by decide +kernel)), by decide +kernel, by decide +kernel, by decide +kernel⟩
theorem vlX9_text : VLk yX9_text := ⟨wA_sub_4 _ (List.mem_of_getElem? (i := 33) (by decide +kernel)), wA_sub_4 _ (List.mem_of_getElem? (i := 34) (by decide +kernel))⟩
theorem mlX9_isUse : MLk yX9_isUse cX9_isUse 1 (some .boolean) 1 := ⟨wA_sub_4 _ (List.mem_of_getElem? (i := 38) (by decide +kernel)), wA_sub_0 _ (List.mem_of_getElem? (i := 76) (by decide +kernel)), by decide +kernel, by decide +kernel, by decide +kernel⟩
theorem skX9_isUse : Cond.static yX9_isUse ∈ wA := wA_sub_4 _ (List.mem_of_getElem? (i := 37) (by decide +kernel))
theorem mlX7_read : MLk yX7_read cX7_read 4 (some .boolean) 3 := ⟨wA_sub_4 _ (List.mem_of_getElem? (i := 42) (by decide +kernel)), wA_sub_0 _ (List.mem_of_getElem? (i := 83) (by decide +kernel)), by decide +kernel, by decide +kernel, by decide +kernel⟩
theorem vlX7_read : VLk yX7_read := ⟨wA_sub_4 _ (List.mem_of_getElem? (i := 40) (by decide +kernel)), wA_sub_4 _ (List.mem_of_getElem? (i := 41) (by decide +kernel))⟩
theorem mlX3_clear : MLk yX3_clear cX3_clear 1 none 0 := ⟨wA_sub_4 _ (List.mem_of_getElem? (i := 46) (by decide +kernel)), wA_sub_0 _ (List.mem_of_getElem? (i := 80) (by decide +kernel)), by decide +kernel, by decide +kernel, by decide +kernel⟩
theorem vlX3_clear : VLk yX3_clear := ⟨wA_sub_4 _ (List.mem_of_getElem? (i := 44) (by decide +kernel)), wA_sub_4 _ (List.mem_of_getElem? (i := 45) (by decide +kernel))⟩
theorem mlX7_readJoined : MLk yX7_readJoined cX7_readJoined 6 (some .boolean) 2 := ⟨wA_sub_4 _ (List.mem_of_getElem? (i := 49) (by decide +kernel)), wA_sub_0 _ (List.mem_of_getElem? (i := 83) (by decide +kernel)), by decide +kernel, by decide +kernel, by decide +kernel⟩
theorem vlX7_readJoined : VLk yX7_readJoined := ⟨wA_sub_4 _ (List.mem_of_getElem? (i := 48) (by decide +kernel)), wA_sub_0 _ (List.mem_of_getElem? (i := 5) (by decide +kernel))⟩
theorem mlX7_readSingle : MLk yX7_readSingle cX7_readSingle 3 (some .boolean) 1 := ⟨wA_sub_4 _ (List.mem_of_getElem? (i := 52) (by decide +kernel)), wA_sub_0 _ (List.mem_of_getElem? (i := 83) (by decide +kernel)), by decide +kernel, by decide +kernel, by decide +kernel⟩
theorem vlX7_readSingle : VLk yX7_readSingle := ⟨wA_sub_4 _ (List.mem_of_getElem? (i := 51) (by decide +kernel)), wA_sub_0 _ (List.mem_of_getElem? (i := 6) (by decide +kernel))⟩
theorem mlX7_signHere : MLk yX7_signHere cX7_signHere 1 (some .int) 0 := ⟨wA_sub_4 _ (List.mem_of_getElem? (i := 55) (by decide +kernel)), wA_sub_0 _ (List.mem_of_getElem? (i := 83) (by decide +kernel)), by decide +kernel, by decide +kernel, by decide +kernel⟩
theorem vlX7_signHere : VLk yX7_signHere := ⟨wA_sub_4 _ (List.mem_of_getElem? (i := 54) (by decide +kernel)), wA_sub_0 _ (List.mem_of_getElem? (i := 7) (by decide +kernel))⟩
theorem mlX7_isDigit : MLk yX7_isDigit cX7_isDigit 1 (some .boolean) 1 := ⟨wA_sub_4 _ (List.mem_of_getElem? (i := 58) (by decide +kernel)), wA_sub_0 _ (List.mem_of_getElem? (i := 83) (by decide +kernel)), by decide +kernel, by decide +kernel, by decide +kernel⟩
theorem skX7_isDigit : Cond.static yX7_isDigit ∈ wA := wA_sub_4 _ (List.mem_of_getElem? (i := 57) (by decide +kernel))
theorem mlX7_readNumber : MLk yX7_readNumber cX7_readNumber 3 none 0 := ⟨wA_sub_4 _ (List.mem_of_getElem? (i := 61) (by decide +kernel)), wA_sub_0 _ (List.mem_of_getElem? (i := 83) (by decide +kernel)), by decide +kernel, by decide +kernel, by decide +kernel⟩
theorem vlX7_readNumber : VLk yX7_readNumber := ⟨wA_sub_4 _ (List.mem_of_getElem? (i := 60) (by decide +kernel)), wA_sub_0 _ (List.mem_of_getElem? (i := 8) (by decide +kernel))⟩
theorem mlX3_add : MLk yX3_add cX3_add 2 none 1 := ⟨wA_sub_4 _ (List.mem_of_getElem? (i := 65) (by decide +kernel)), wA_sub_0 _ (List.mem_of_getElem? (i := 80) (by decide +kernel)), by decide +kernel, by decide +kernel, by decide +kernel⟩
theorem vlX3_add : VLk yX3_add := ⟨wA_sub_4 _ (List.mem_of_getElem? (i := 63) (by decide +kernel)), wA_sub_4 _ (List.mem_of_getElem? (i := 64) (by decide +kernel))⟩
theorem mlX7_readName : MLk yX7_readName cX7_readName 3 (some .boolean) 1 := ⟨wA_sub_4 _ (List.mem_of_getElem? (i := 68) (by decide +kernel)), wA_sub_0 _ (List.mem_of_getElem? (i := 83) (by decide +kernel)), by decide +kernel, by decide +kernel, by decide +kernel⟩
theorem vlX7_readName : VLk yX7_readName := ⟨wA_sub_4 _ (List.mem_of_getElem? (i := 67) (by decide +kernel)), wA_sub_0 _ (List.mem_of_getElem? (i := 9) (by decide +kernel))⟩
theorem mlX7_readNegated : MLk yX7_readNegated cX7_readNegated 2 (some .boolean) 1 := ⟨wA_sub_4 _ (List.mem_of_getElem? (i := 72) (by decide +kernel)), wA_sub_0 _ (List.mem_of_getElem? (i := 83) (by decide +kernel)), by decide +kernel, by decide +kernel, by decide +kernel⟩
theorem vlX7_readNegated : VLk yX7_readNegated := ⟨wA_sub_4 _ (List.mem_of_getElem? (i := 71) (by decide +kernel)), wA_sub_0 _ (List.mem_of_getElem? (i := 10) (by decide +kernel))⟩
theorem mlX7_readBracketed : MLk yX7_readBracketed cX7_readBracketed 2 (some .boolean) 1 := ⟨wA_sub_4 _ (List.mem_of_getElem? (i := 75) (by decide +kernel)), wA_sub_0 _ (List.mem_of_getElem? (i := 83) (by decide +kernel)), by decide +kernel, by decide +kernel, by decide +kernel⟩
theorem vlX7_readBracketed : VLk yX7_readBracketed := ⟨wA_sub_4 _ (List.mem_of_getElem? (i := 74) (by decide +kernel)), wA_sub_0 _ (List.mem_of_getElem? (i := 11) (by decide +kernel))⟩
theorem mlX7_levelOf : MLk yX7_levelOf cX7_levelOf 1 (some .int) 1 := ⟨wA_sub_4 _ (List.mem_of_getElem? (i := 78) (by decide +kernel)), wA_sub_0 _ (List.mem_of_getElem? (i := 83) (by decide +kernel)), by decide +kernel, by decide +kernel, by decide +kernel⟩
theorem skX7_levelOf : Cond.static yX7_levelOf ∈ wA := wA_sub_4 _ (List.mem_of_getElem? (i := 77) (by decide +kernel))
theorem mlX3_copyFrom : MLk yX3_copyFrom cX3_copyFrom 2 none 1 := ⟨wA_sub_4 _ (List.mem_of_getElem? (i := 82) (by decide +kernel)), wA_sub_0 _ (List.mem_of_getElem? (i := 80) (by decide +kernel)), by decide +kernel, by decide +kernel, by decide +kernel⟩
theorem vlX3_copyFrom : VLk yX3_copyFrom := ⟨wA_sub_4 _ (List.mem_of_getElem? (i := 80) (by decide +kernel)), wA_sub_4 _ (List.mem_of_getElem? (i := 81) (by decide +kernel))⟩
theorem mlX9_untell : MLk yX9_untell cX9_untell 3 (some .int) 1 := ⟨wA_sub_4 _ (List.mem_of_getElem? (i := 89) (by decide +kernel)), wA_sub_0 _ (List.mem_of_getElem? (i := 76) (by decide +kernel)), by decide +kernel, by decide +kernel, by decide +kernel⟩
theorem vlX9_untell : VLk yX9_untell := ⟨wA_sub_4 _ (List.mem_of_getElem? (i := 87) (by decide +kernel)), wA_sub_4 _ (List.mem_of_getElem? (i := 88) (by decide +kernel))⟩
theorem mlX9_law : MLk yX9_law cX9_law 5 (some .int) 4 := ⟨wA_sub_4 _ (List.mem_of_getElem? (i := 95) (by decide +kernel)), wA_sub_0 _ (List.mem_of_getElem? (i := 76) (by decide +kernel)), by decide +kernel, by decide +kernel, by decide +kernel⟩
theorem vlX9_law : VLk yX9_law := ⟨wA_sub_4 _ (List.mem_of_getElem? (i := 93) (by decide +kernel)), wA_sub_4 _ (List.mem_of_getElem? (i := 94) (by decide +kernel))⟩
theorem mlX9_years : MLk yX9_years cX9_years 2 (some .int) 1 := ⟨wA_sub_5 _ (List.mem_of_getElem? (i := 0) (by decide +kernel)), wA_sub_0 _ (List.mem_of_getElem? (i := 76) (by decide +kernel)), by decide +kernel, by decide +kernel, by decide +kernel⟩
theorem vlX9_years : VLk yX9_years := ⟨wA_sub_4 _ (List.mem_of_getElem? (i := 98) (by decide +kernel)), wA_sub_4 _ (List.mem_of_getElem? (i := 99) (by decide +kernel))⟩
theorem mlX1_passYears : MLk yX1_passYears cX1_passYears 3 none 1 := ⟨wA_sub_5 _ (List.mem_of_getElem? (i := 5) (by decide +kernel)), wA_sub_0 _ (List.mem_of_getElem? (i := 78) (by decide +kernel)), by decide +kernel, by decide +kernel, by decide +kernel⟩
theorem vlX1_passYears : VLk yX1_passYears := ⟨wA_sub_5 _ (List.mem_of_getElem? (i := 3) (by decide +kernel)), wA_sub_5 _ (List.mem_of_getElem? (i := 4) (by decide +kernel))⟩
theorem mlX1_passYear : MLk yX1_passYear cX1_passYear 3 none 0 := ⟨wA_sub_5 _ (List.mem_of_getElem? (i := 9) (by decide +kernel)), wA_sub_0 _ (List.mem_of_getElem? (i := 78) (by decide +kernel)), by decide +kernel, by decide +kernel, by decide +kernel⟩
theorem vlX1_passYear : VLk yX1_passYear := ⟨wA_sub_5 _ (List.mem_of_getElem? (i := 7) (by decide +kernel)), wA_sub_5 _ (List.mem_of_getElem? (i := 8) (by decide +kernel))⟩
theorem mlX2_goUnheard : MLk yX2_goUnheard cX2_goUnheard 2 none 1 := ⟨wA_sub_5 _ (List.mem_of_getElem? (i := 13) (by decide +kernel)), wA_sub_0 _ (List.mem_of_getElem? (i := 79) (by decide +kernel)), by decide +kernel, by decide +kernel, by decide +kernel⟩
theorem vlX2_goUnheard : VLk yX2_goUnheard := ⟨wA_sub_5 _ (List.mem_of_getElem? (i := 11) (by decide +kernel)), wA_sub_5 _ (List.mem_of_getElem? (i := 12) (by decide +kernel))⟩
theorem mlX1_seenCount : MLk yX1_seenCount cX1_seenCount 1 (some .int) 0 := ⟨wA_sub_5 _ (List.mem_of_getElem? (i := 18) (by decide +kernel)), wA_sub_0 _ (List.mem_of_getElem? (i := 78) (by decide +kernel)), by decide +kernel, by decide +kernel, by decide +kernel⟩
theorem vlX1_seenCount : VLk yX1_seenCount := ⟨wA_sub_5 _ (List.mem_of_getElem? (i := 16) (by decide +kernel)), wA_sub_5 _ (List.mem_of_getElem? (i := 17) (by decide +kernel))⟩
theorem mlX1_seenSet : MLk yX1_seenSet cX1_seenSet 3 (some .int) 0 := ⟨wA_sub_5 _ (List.mem_of_getElem? (i := 22) (by decide +kernel)), wA_sub_0 _ (List.mem_of_getElem? (i := 78) (by decide +kernel)), by decide +kernel, by decide +kernel, by decide +kernel⟩
theorem vlX1_seenSet : VLk yX1_seenSet := ⟨wA_sub_5 _ (List.mem_of_getElem? (i := 20) (by decide +kernel)), wA_sub_5 _ (List.mem_of_getElem? (i := 21) (by decide +kernel))⟩
theorem mlJ6_bitCount_0f7a4 : MLk yJ6_bitCount_0f7a4 cJ6_bitCount_0f7a4 1 (some .int) 1 := ⟨wA_sub_5 _ (List.mem_of_getElem? (i := 25) (by decide +kernel)), wA_sub_0 _ (List.mem_of_getElem? (i := 89) (by decide +kernel)), by decide +kernel, by decide +kernel, by decide +kernel⟩
theorem skJ6_bitCount_0f7a4 : Cond.static yJ6_bitCount_0f7a4 ∈ wA := wA_sub_5 _ (List.mem_of_getElem? (i := 24) (by decide +kernel))
theorem mlX9_loose : MLk yX9_loose cX9_loose 3 (some .int) 1 := ⟨wA_sub_5 _ (List.mem_of_getElem? (i := 32) (by decide +kernel)), wA_sub_0 _ (List.mem_of_getElem? (i := 76) (by decide +kernel)), by decide +kernel, by decide +kernel, by decide +kernel⟩
theorem vlX9_loose : VLk yX9_loose := ⟨wA_sub_5 _ (List.mem_of_getElem? (i := 30) (by decide +kernel)), wA_sub_5 _ (List.mem_of_getElem? (i := 31) (by decide +kernel))⟩
theorem mlX1_passYearByDraws : MLk yX1_passYearByDraws cX1_passYearByDraws 4 none 0 := ⟨wA_sub_5 _ (List.mem_of_getElem? (i := 36) (by decide +kernel)), wA_sub_0 _ (List.mem_of_getElem? (i := 78) (by decide +kernel)), by decide +kernel, by decide +kernel, by decide +kernel⟩
theorem vlX1_passYearByDraws : VLk yX1_passYearByDraws := ⟨wA_sub_5 _ (List.mem_of_getElem? (i := 34) (by decide +kernel)), wA_sub_5 _ (List.mem_of_getElem? (i := 35) (by decide +kernel))⟩
theorem mlX1_nextDraw : MLk yX1_nextDraw cX1_nextDraw 1 (some .int) 0 := ⟨wA_sub_5 _ (List.mem_of_getElem? (i := 39) (by decide +kernel)), wA_sub_0 _ (List.mem_of_getElem? (i := 78) (by decide +kernel)), by decide +kernel, by decide +kernel, by decide +kernel⟩
theorem vlX1_nextDraw : VLk yX1_nextDraw := ⟨wA_sub_5 _ (List.mem_of_getElem? (i := 38) (by decide +kernel)), wA_sub_0 _ (List.mem_of_getElem? (i := 12) (by decide +kernel))⟩
theorem mlX9_lineAt : MLk yX9_lineAt cX9_lineAt 1 (some .int) 1 := ⟨wA_sub_5 _ (List.mem_of_getElem? (i := 42) (by decide +kernel)), wA_sub_0 _ (List.mem_of_getElem? (i := 76) (by decide +kernel)), by decide +kernel, by decide +kernel, by decide +kernel⟩
theorem skX9_lineAt : Cond.static yX9_lineAt ∈ wA := wA_sub_5 _ (List.mem_of_getElem? (i := 41) (by decide +kernel))
theorem mlX9_seed : MLk yX9_seed cX9_seed 3 (some .int) 1 := ⟨wA_sub_5 _ (List.mem_of_getElem? (i := 47) (by decide +kernel)), wA_sub_0 _ (List.mem_of_getElem? (i := 76) (by decide +kernel)), by decide +kernel, by decide +kernel, by decide +kernel⟩
theorem vlX9_seed : VLk yX9_seed := ⟨wA_sub_5 _ (List.mem_of_getElem? (i := 45) (by decide +kernel)), wA_sub_5 _ (List.mem_of_getElem? (i := 46) (by decide +kernel))⟩
theorem mlX9_talk : MLk yX9_talk cX9_talk 2 (some .int) 1 := ⟨wA_sub_5 _ (List.mem_of_getElem? (i := 51) (by decide +kernel)), wA_sub_0 _ (List.mem_of_getElem? (i := 76) (by decide +kernel)), by decide +kernel, by decide +kernel, by decide +kernel⟩
theorem vlX9_talk : VLk yX9_talk := ⟨wA_sub_5 _ (List.mem_of_getElem? (i := 49) (by decide +kernel)), wA_sub_5 _ (List.mem_of_getElem? (i := 50) (by decide +kernel))⟩
theorem mlX1_longestTalk : MLk yX1_longestTalk cX1_longestTalk 4 (some .int) 0 := ⟨wA_sub_5 _ (List.mem_of_getElem? (i := 55) (by decide +kernel)), wA_sub_0 _ (List.mem_of_getElem? (i := 78) (by decide +kernel)), by decide +kernel, by decide +kernel, by decide +kernel⟩
theorem vlX1_longestTalk : VLk yX1_longestTalk := ⟨wA_sub_5 _ (List.mem_of_getElem? (i := 53) (by decide +kernel)), wA_sub_5 _ (List.mem_of_getElem? (i := 54) (by decide +kernel))⟩
theorem mlX1_isAnswer : MLk yX1_isAnswer cX1_isAnswer 3 (some .boolean) 1 := ⟨wA_sub_5 _ (List.mem_of_getElem? (i := 59) (by decide +kernel)), wA_sub_0 _ (List.mem_of_getElem? (i := 78) (by decide +kernel)), by decide +kernel, by decide +kernel, by decide +kernel⟩
theorem vlX1_isAnswer : VLk yX1_isAnswer := ⟨wA_sub_5 _ (List.mem_of_getElem? (i := 57) (by decide +kernel)), wA_sub_5 _ (List.mem_of_getElem? (i := 58) (by decide +kernel))⟩
theorem mlX1_seenAhead : MLk yX1_seenAhead cX1_seenAhead 3 (some .int) 1 := ⟨wA_sub_5 _ (List.mem_of_getElem? (i := 63) (by decide +kernel)), wA_sub_0 _ (List.mem_of_getElem? (i := 78) (by decide +kernel)), by decide +kernel, by decide +kernel, by decide +kernel⟩
theorem vlX1_seenAhead : VLk yX1_seenAhead := ⟨wA_sub_5 _ (List.mem_of_getElem? (i := 61) (by decide +kernel)), wA_sub_5 _ (List.mem_of_getElem? (i := 62) (by decide +kernel))⟩
theorem mlX1_answerCount : MLk yX1_answerCount cX1_answerCount 3 (some .int) 0 := ⟨wA_sub_5 _ (List.mem_of_getElem? (i := 68) (by decide +kernel)), wA_sub_0 _ (List.mem_of_getElem? (i := 78) (by decide +kernel)), by decide +kernel, by decide +kernel, by decide +kernel⟩
theorem vlX1_answerCount : VLk yX1_answerCount := ⟨wA_sub_5 _ (List.mem_of_getElem? (i := 66) (by decide +kernel)), wA_sub_5 _ (List.mem_of_getElem? (i := 67) (by decide +kernel))⟩
theorem mlX9_meaning : MLk yX9_meaning cX9_meaning 5 (some .int) 1 := ⟨wA_sub_5 _ (List.mem_of_getElem? (i := 72) (by decide +kernel)), wA_sub_0 _ (List.mem_of_getElem? (i := 76) (by decide +kernel)), by decide +kernel, by decide +kernel, by decide +kernel⟩
theorem vlX9_meaning : VLk yX9_meaning := ⟨wA_sub_5 _ (List.mem_of_getElem? (i := 70) (by decide +kernel)), wA_sub_5 _ (List.mem_of_getElem? (i := 71) (by decide +kernel))⟩
theorem mlX9_then : MLk yX9_then cX9_then 3 (some .int) 2 := ⟨wA_sub_5 _ (List.mem_of_getElem? (i := 77) (by decide +kernel)), wA_sub_0 _ (List.mem_of_getElem? (i := 76) (by decide +kernel)), by decide +kernel, by decide +kernel, by decide +kernel⟩
theorem vlX9_then : VLk yX9_then := ⟨wA_sub_5 _ (List.mem_of_getElem? (i := 75) (by decide +kernel)), wA_sub_5 _ (List.mem_of_getElem? (i := 76) (by decide +kernel))⟩
theorem mlX1_copyFrom : MLk yX1_copyFrom cX1_copyFrom 3 none 1 := ⟨wA_sub_5 _ (List.mem_of_getElem? (i := 81) (by decide +kernel)), wA_sub_0 _ (List.mem_of_getElem? (i := 78) (by decide +kernel)), by decide +kernel, by decide +kernel, by decide +kernel⟩
theorem vlX1_copyFrom : VLk yX1_copyFrom := ⟨wA_sub_5 _ (List.mem_of_getElem? (i := 79) (by decide +kernel)), wA_sub_5 _ (List.mem_of_getElem? (i := 80) (by decide +kernel))⟩
theorem mlX2_copyFrom : MLk yX2_copyFrom cX2_copyFrom 2 none 1 := ⟨wA_sub_5 _ (List.mem_of_getElem? (i := 85) (by decide +kernel)), wA_sub_0 _ (List.mem_of_getElem? (i := 79) (by decide +kernel)), by decide +kernel, by decide +kernel, by decide +kernel⟩
theorem vlX2_copyFrom : VLk yX2_copyFrom := ⟨wA_sub_5 _ (List.mem_of_getElem? (i := 83) (by decide +kernel)), wA_sub_5 _ (List.mem_of_getElem? (i := 84) (by decide +kernel))⟩
theorem mlX9_fewest : MLk yX9_fewest cX9_fewest 3 (some .int) 1 := ⟨wA_sub_5 _ (List.mem_of_getElem? (i := 90) (by decide +kernel)), wA_sub_0 _ (List.mem_of_getElem? (i := 76) (by decide +kernel)), by decide +kernel, by decide +kernel, by decide +kernel⟩
theorem vlX9_fewest : VLk yX9_fewest := ⟨wA_sub_5 _ (List.mem_of_getElem? (i := 88) (by decide +kernel)), wA_sub_5 _ (List.mem_of_getElem? (i := 89) (by decide +kernel))⟩
theorem mlX0_bestSet : MLk yX0_bestSet cX0_bestSet 4 (some .int) 1 := ⟨wA_sub_5 _ (List.mem_of_getElem? (i := 94) (by decide +kernel)), wA_sub_0 _ (List.mem_of_getElem? (i := 81) (by decide +kernel)), by decide +kernel, by decide +kernel, by decide +kernel⟩
theorem vlX0_bestSet : VLk yX0_bestSet := ⟨wA_sub_5 _ (List.mem_of_getElem? (i := 92) (by decide +kernel)), wA_sub_5 _ (List.mem_of_getElem? (i := 93) (by decide +kernel))⟩
theorem mlX0_bestAhead : MLk yX0_bestAhead cX0_bestAhead 5 (some .int) 2 := ⟨wA_sub_5 _ (List.mem_of_getElem? (i := 97) (by decide +kernel)), wA_sub_0 _ (List.mem_of_getElem? (i := 81) (by decide +kernel)), by decide +kernel, by decide +kernel, by decide +kernel⟩
theorem vlX0_bestAhead : VLk yX0_bestAhead := ⟨wA_sub_5 _ (List.mem_of_getElem? (i := 96) (by decide +kernel)), wA_sub_0 _ (List.mem_of_getElem? (i := 13) (by decide +kernel))⟩
theorem mlX9_reply : MLk yX9_reply cX9_reply 5 (some .int) 2 := ⟨wA_sub_6 _ (List.mem_of_getElem? (i := 4) (by decide +kernel)), wA_sub_0 _ (List.mem_of_getElem? (i := 76) (by decide +kernel)), by decide +kernel, by decide +kernel, by decide +kernel⟩
theorem vlX9_reply : VLk yX9_reply := ⟨wA_sub_6 _ (List.mem_of_getElem? (i := 2) (by decide +kernel)), wA_sub_6 _ (List.mem_of_getElem? (i := 3) (by decide +kernel))⟩
theorem mlX4_measureTo : MLk yX4_measureTo cX4_measureTo 4 none 1 := ⟨wA_sub_6 _ (List.mem_of_getElem? (i := 9) (by decide +kernel)), wA_sub_0 _ (List.mem_of_getElem? (i := 82) (by decide +kernel)), by decide +kernel, by decide +kernel, by decide +kernel⟩
theorem vlX4_measureTo : VLk yX4_measureTo := ⟨wA_sub_6 _ (List.mem_of_getElem? (i := 7) (by decide +kernel)), wA_sub_6 _ (List.mem_of_getElem? (i := 8) (by decide +kernel))⟩
theorem mlX4_cheapestUnsettled : MLk yX4_cheapestUnsettled cX4_cheapestUnsettled 3 (some .int) 0 := ⟨wA_sub_6 _ (List.mem_of_getElem? (i := 13) (by decide +kernel)), wA_sub_0 _ (List.mem_of_getElem? (i := 82) (by decide +kernel)), by decide +kernel, by decide +kernel, by decide +kernel⟩
theorem vlX4_cheapestUnsettled : VLk yX4_cheapestUnsettled := ⟨wA_sub_6 _ (List.mem_of_getElem? (i := 12) (by decide +kernel)), wA_sub_0 _ (List.mem_of_getElem? (i := 14) (by decide +kernel))⟩
theorem mlX4_reachFrom : MLk yX4_reachFrom cX4_reachFrom 3 none 1 := ⟨wA_sub_6 _ (List.mem_of_getElem? (i := 16) (by decide +kernel)), wA_sub_0 _ (List.mem_of_getElem? (i := 82) (by decide +kernel)), by decide +kernel, by decide +kernel, by decide +kernel⟩
theorem vlX4_reachFrom : VLk yX4_reachFrom := ⟨wA_sub_6 _ (List.mem_of_getElem? (i := 15) (by decide +kernel)), wA_sub_0 _ (List.mem_of_getElem? (i := 15) (by decide +kernel))⟩
theorem mlX9_firstReplyLine : MLk yX9_firstReplyLine cX9_firstReplyLine 6 (some .int) 1 := ⟨wA_sub_6 _ (List.mem_of_getElem? (i := 23) (by decide +kernel)), wA_sub_0 _ (List.mem_of_getElem? (i := 76) (by decide +kernel)), by decide +kernel, by decide +kernel, by decide +kernel⟩
theorem vlX9_firstReplyLine : VLk yX9_firstReplyLine := ⟨wA_sub_6 _ (List.mem_of_getElem? (i := 22) (by decide +kernel)), wA_sub_0 _ (List.mem_of_getElem? (i := 16) (by decide +kernel))⟩
theorem mlX4_leastFirstStep : MLk yX4_leastFirstStep cX4_leastFirstStep 3 (some .int) 1 := ⟨wA_sub_6 _ (List.mem_of_getElem? (i := 27) (by decide +kernel)), wA_sub_0 _ (List.mem_of_getElem? (i := 82) (by decide +kernel)), by decide +kernel, by decide +kernel, by decide +kernel⟩
theorem vlX4_leastFirstStep : VLk yX4_leastFirstStep := ⟨wA_sub_6 _ (List.mem_of_getElem? (i := 25) (by decide +kernel)), wA_sub_6 _ (List.mem_of_getElem? (i := 26) (by decide +kernel))⟩
theorem mlX9_odds : MLk yX9_odds cX9_odds 7 (some .int) 3 := ⟨wA_sub_6 _ (List.mem_of_getElem? (i := 31) (by decide +kernel)), wA_sub_0 _ (List.mem_of_getElem? (i := 76) (by decide +kernel)), by decide +kernel, by decide +kernel, by decide +kernel⟩
theorem vlX9_odds : VLk yX9_odds := ⟨wA_sub_6 _ (List.mem_of_getElem? (i := 29) (by decide +kernel)), wA_sub_6 _ (List.mem_of_getElem? (i := 30) (by decide +kernel))⟩
theorem mlX9_linesThatEcho : MLk yX9_linesThatEcho cX9_linesThatEcho 4 (some .int) 1 := ⟨wA_sub_6 _ (List.mem_of_getElem? (i := 34) (by decide +kernel)), wA_sub_0 _ (List.mem_of_getElem? (i := 76) (by decide +kernel)), by decide +kernel, by decide +kernel, by decide +kernel⟩
theorem vlX9_linesThatEcho : VLk yX9_linesThatEcho := ⟨wA_sub_6 _ (List.mem_of_getElem? (i := 33) (by decide +kernel)), wA_sub_0 _ (List.mem_of_getElem? (i := 17) (by decide +kernel))⟩
theorem mlX9_commonDivisor : MLk yX9_commonDivisor cX9_commonDivisor 2 (some .int) 1 := ⟨wA_sub_6 _ (List.mem_of_getElem? (i := 39) (by decide +kernel)), wA_sub_0 _ (List.mem_of_getElem? (i := 76) (by decide +kernel)), by decide +kernel, by decide +kernel, by decide +kernel⟩
theorem skX9_commonDivisor : Cond.static yX9_commonDivisor ∈ wA := wA_sub_6 _ (List.mem_of_getElem? (i := 38) (by decide +kernel))
theorem mlX9_fits : MLk yX9_fits cX9_fits 4 (some .int) 1 := ⟨wA_sub_6 _ (List.mem_of_getElem? (i := 43) (by decide +kernel)), wA_sub_0 _ (List.mem_of_getElem? (i := 76) (by decide +kernel)), by decide +kernel, by decide +kernel, by decide +kernel⟩
theorem vlX9_fits : VLk yX9_fits := ⟨wA_sub_6 _ (List.mem_of_getElem? (i := 41) (by decide +kernel)), wA_sub_6 _ (List.mem_of_getElem? (i := 42) (by decide +kernel))⟩
theorem mlX9_isSheet : MLk yX9_isSheet cX9_isSheet 1 (some .boolean) 1 := ⟨wA_sub_6 _ (List.mem_of_getElem? (i := 46) (by decide +kernel)), wA_sub_0 _ (List.mem_of_getElem? (i := 76) (by decide +kernel)), by decide +kernel, by decide +kernel, by decide +kernel⟩
theorem skX9_isSheet : Cond.static yX9_isSheet ∈ wA := wA_sub_6 _ (List.mem_of_getElem? (i := 45) (by decide +kernel))
theorem mlX5_isMissing : MLk yX5_isMissing cX5_isMissing 1 (some .boolean) 0 := ⟨wA_sub_6 _ (List.mem_of_getElem? (i := 50) (by decide +kernel)), wA_sub_0 _ (List.mem_of_getElem? (i := 85) (by decide +kernel)), by decide +kernel, by decide +kernel, by decide +kernel⟩
theorem vlX5_isMissing : VLk yX5_isMissing := ⟨wA_sub_6 _ (List.mem_of_getElem? (i := 48) (by decide +kernel)), wA_sub_6 _ (List.mem_of_getElem? (i := 49) (by decide +kernel))⟩
theorem mlX9_tellsLengths : MLk yX9_tellsLengths cX9_tellsLengths 5 (some .boolean) 2 := ⟨wA_sub_6 _ (List.mem_of_getElem? (i := 54) (by decide +kernel)), wA_sub_0 _ (List.mem_of_getElem? (i := 76) (by decide +kernel)), by decide +kernel, by decide +kernel, by decide +kernel⟩
theorem skX9_tellsLengths : Cond.static yX9_tellsLengths ∈ wA := wA_sub_6 _ (List.mem_of_getElem? (i := 53) (by decide +kernel))
theorem mlX9_voice : MLk yX9_voice cX9_voice 5 (some .int) 3 := ⟨wA_sub_6 _ (List.mem_of_getElem? (i := 59) (by decide +kernel)), wA_sub_0 _ (List.mem_of_getElem? (i := 76) (by decide +kernel)), by decide +kernel, by decide +kernel, by decide +kernel⟩
theorem vlX9_voice : VLk yX9_voice := ⟨wA_sub_6 _ (List.mem_of_getElem? (i := 57) (by decide +kernel)), wA_sub_6 _ (List.mem_of_getElem? (i := 58) (by decide +kernel))⟩
theorem mlX6_speak : MLk yX6_speak cX6_speak 5 (some .int) 4 := ⟨wA_sub_6 _ (List.mem_of_getElem? (i := 63) (by decide +kernel)), wA_sub_0 _ (List.mem_of_getElem? (i := 84) (by decide +kernel)), by decide +kernel, by decide +kernel, by decide +kernel⟩
theorem vlX6_speak : VLk yX6_speak := ⟨wA_sub_6 _ (List.mem_of_getElem? (i := 61) (by decide +kernel)), wA_sub_6 _ (List.mem_of_getElem? (i := 62) (by decide +kernel))⟩
theorem mlX6_says : MLk yX6_says cX6_says 3 (some .int) 2 := ⟨wA_sub_6 _ (List.mem_of_getElem? (i := 66) (by decide +kernel)), wA_sub_0 _ (List.mem_of_getElem? (i := 84) (by decide +kernel)), by decide +kernel, by decide +kernel, by decide +kernel⟩
theorem vlX6_says : VLk yX6_says := ⟨wA_sub_6 _ (List.mem_of_getElem? (i := 65) (by decide +kernel)), wA_sub_0 _ (List.mem_of_getElem? (i := 18) (by decide +kernel))⟩
theorem mlX6_begin : MLk yX6_begin cX6_begin 2 none 1 := ⟨wA_sub_6 _ (List.mem_of_getElem? (i := 69) (by decide +kernel)), wA_sub_0 _ (List.mem_of_getElem? (i := 84) (by decide +kernel)), by decide +kernel, by decide +kernel, by decide +kernel⟩
theorem vlX6_begin : VLk yX6_begin := ⟨wA_sub_6 _ (List.mem_of_getElem? (i := 68) (by decide +kernel)), wA_sub_0 _ (List.mem_of_getElem? (i := 19) (by decide +kernel))⟩
theorem mlX6_asks : MLk yX6_asks cX6_asks 3 (some .int) 2 := ⟨wA_sub_6 _ (List.mem_of_getElem? (i := 72) (by decide +kernel)), wA_sub_0 _ (List.mem_of_getElem? (i := 84) (by decide +kernel)), by decide +kernel, by decide +kernel, by decide +kernel⟩
theorem vlX6_asks : VLk yX6_asks := ⟨wA_sub_6 _ (List.mem_of_getElem? (i := 71) (by decide +kernel)), wA_sub_0 _ (List.mem_of_getElem? (i := 20) (by decide +kernel))⟩
theorem mlX6_hums : MLk yX6_hums cX6_hums 3 (some .int) 2 := ⟨wA_sub_6 _ (List.mem_of_getElem? (i := 75) (by decide +kernel)), wA_sub_0 _ (List.mem_of_getElem? (i := 84) (by decide +kernel)), by decide +kernel, by decide +kernel, by decide +kernel⟩
theorem vlX6_hums : VLk yX6_hums := ⟨wA_sub_6 _ (List.mem_of_getElem? (i := 74) (by decide +kernel)), wA_sub_0 _ (List.mem_of_getElem? (i := 21) (by decide +kernel))⟩
theorem mlX6_parts : MLk yX6_parts cX6_parts 4 (some .int) 2 := ⟨wA_sub_6 _ (List.mem_of_getElem? (i := 78) (by decide +kernel)), wA_sub_0 _ (List.mem_of_getElem? (i := 84) (by decide +kernel)), by decide +kernel, by decide +kernel, by decide +kernel⟩
theorem vlX6_parts : VLk yX6_parts := ⟨wA_sub_6 _ (List.mem_of_getElem? (i := 77) (by decide +kernel)), wA_sub_0 _ (List.mem_of_getElem? (i := 22) (by decide +kernel))⟩
theorem mlX9_body : MLk yX9_body cX9_body 2 (some .int) 1 := ⟨wA_sub_6 _ (List.mem_of_getElem? (i := 83) (by decide +kernel)), wA_sub_0 _ (List.mem_of_getElem? (i := 76) (by decide +kernel)), by decide +kernel, by decide +kernel, by decide +kernel⟩
theorem vlX9_body : VLk yX9_body := ⟨wA_sub_6 _ (List.mem_of_getElem? (i := 81) (by decide +kernel)), wA_sub_6 _ (List.mem_of_getElem? (i := 82) (by decide +kernel))⟩
theorem mlX9_sheet : MLk yX9_sheet cX9_sheet 4 (some .int) 3 := ⟨wA_sub_6 _ (List.mem_of_getElem? (i := 87) (by decide +kernel)), wA_sub_0 _ (List.mem_of_getElem? (i := 76) (by decide +kernel)), by decide +kernel, by decide +kernel, by decide +kernel⟩
theorem vlX9_sheet : VLk yX9_sheet := ⟨wA_sub_6 _ (List.mem_of_getElem? (i := 85) (by decide +kernel)), wA_sub_6 _ (List.mem_of_getElem? (i := 86) (by decide +kernel))⟩
theorem mlX5_lay : MLk yX5_lay cX5_lay 4 none 2 := ⟨wA_sub_6 _ (List.mem_of_getElem? (i := 91) (by decide +kernel)), wA_sub_0 _ (List.mem_of_getElem? (i := 85) (by decide +kernel)), by decide +kernel, by decide +kernel, by decide +kernel⟩
theorem vlX5_lay : VLk yX5_lay := ⟨wA_sub_6 _ (List.mem_of_getElem? (i := 89) (by decide +kernel)), wA_sub_6 _ (List.mem_of_getElem? (i := 90) (by decide +kernel))⟩
theorem mlX9_put : MLk yX9_put cX9_put 5 (some .int) 3 := ⟨wA_sub_6 _ (List.mem_of_getElem? (i := 95) (by decide +kernel)), wA_sub_0 _ (List.mem_of_getElem? (i := 76) (by decide +kernel)), by decide +kernel, by decide +kernel, by decide +kernel⟩
theorem vlX9_put : VLk yX9_put := ⟨wA_sub_6 _ (List.mem_of_getElem? (i := 93) (by decide +kernel)), wA_sub_6 _ (List.mem_of_getElem? (i := 94) (by decide +kernel))⟩
theorem mlX5_write : MLk yX5_write cX5_write 3 none 2 := ⟨wA_sub_6 _ (List.mem_of_getElem? (i := 99) (by decide +kernel)), wA_sub_0 _ (List.mem_of_getElem? (i := 85) (by decide +kernel)), by decide +kernel, by decide +kernel, by decide +kernel⟩
theorem vlX5_write : VLk yX5_write := ⟨wA_sub_6 _ (List.mem_of_getElem? (i := 97) (by decide +kernel)), wA_sub_6 _ (List.mem_of_getElem? (i := 98) (by decide +kernel))⟩
theorem mlX9_move : MLk yX9_move cX9_move 8 (some .int) 5 := ⟨wA_sub_7 _ (List.mem_of_getElem? (i := 3) (by decide +kernel)), wA_sub_0 _ (List.mem_of_getElem? (i := 76) (by decide +kernel)), by decide +kernel, by decide +kernel, by decide +kernel⟩
theorem vlX9_move : VLk yX9_move := ⟨wA_sub_7 _ (List.mem_of_getElem? (i := 1) (by decide +kernel)), wA_sub_7 _ (List.mem_of_getElem? (i := 2) (by decide +kernel))⟩
theorem mlX5_holds : MLk yX5_holds cX5_holds 3 (some .boolean) 2 := ⟨wA_sub_7 _ (List.mem_of_getElem? (i := 7) (by decide +kernel)), wA_sub_0 _ (List.mem_of_getElem? (i := 85) (by decide +kernel)), by decide +kernel, by decide +kernel, by decide +kernel⟩
theorem vlX5_holds : VLk yX5_holds := ⟨wA_sub_7 _ (List.mem_of_getElem? (i := 5) (by decide +kernel)), wA_sub_7 _ (List.mem_of_getElem? (i := 6) (by decide +kernel))⟩
theorem mlX9_lines : MLk yX9_lines cX9_lines 5 (some .int) 1 := ⟨wA_sub_7 _ (List.mem_of_getElem? (i := 12) (by decide +kernel)), wA_sub_0 _ (List.mem_of_getElem? (i := 76) (by decide +kernel)), by decide +kernel, by decide +kernel, by decide +kernel⟩
theorem vlX9_lines : VLk yX9_lines := ⟨wA_sub_7 _ (List.mem_of_getElem? (i := 10) (by decide +kernel)), wA_sub_7 _ (List.mem_of_getElem? (i := 11) (by decide +kernel))⟩
theorem mlX9_judge : MLk yX9_judge cX9_judge 5 (some .int) 1 := ⟨wA_sub_7 _ (List.mem_of_getElem? (i := 16) (by decide +kernel)), wA_sub_0 _ (List.mem_of_getElem? (i := 76) (by decide +kernel)), by decide +kernel, by decide +kernel, by decide +kernel⟩
theorem vlX9_judge : VLk yX9_judge := ⟨wA_sub_7 _ (List.mem_of_getElem? (i := 14) (by decide +kernel)), wA_sub_7 _ (List.mem_of_getElem? (i := 15) (by decide +kernel))⟩
theorem mlX9_image : MLk yX9_image cX9_image 1 (some .int) 0 := ⟨wA_sub_7 _ (List.mem_of_getElem? (i := 20) (by decide +kernel)), wA_sub_0 _ (List.mem_of_getElem? (i := 76) (by decide +kernel)), by decide +kernel, by decide +kernel, by decide +kernel⟩
theorem vlX9_image : VLk yX9_image := ⟨wA_sub_7 _ (List.mem_of_getElem? (i := 18) (by decide +kernel)), wA_sub_7 _ (List.mem_of_getElem? (i := 19) (by decide +kernel))⟩
theorem mlX8_copyFrom : MLk yX8_copyFrom cX8_copyFrom 3 none 1 := ⟨wA_sub_7 _ (List.mem_of_getElem? (i := 24) (by decide +kernel)), wA_sub_0 _ (List.mem_of_getElem? (i := 77) (by decide +kernel)), by decide +kernel, by decide +kernel, by decide +kernel⟩
theorem vlX8_copyFrom : VLk yX8_copyFrom := ⟨wA_sub_7 _ (List.mem_of_getElem? (i := 22) (by decide +kernel)), wA_sub_7 _ (List.mem_of_getElem? (i := 23) (by decide +kernel))⟩
theorem mlX9_restore : MLk yX9_restore cX9_restore 1 (some .int) 0 := ⟨wA_sub_7 _ (List.mem_of_getElem? (i := 31) (by decide +kernel)), wA_sub_0 _ (List.mem_of_getElem? (i := 76) (by decide +kernel)), by decide +kernel, by decide +kernel, by decide +kernel⟩
theorem vlX9_restore : VLk yX9_restore := ⟨wA_sub_7 _ (List.mem_of_getElem? (i := 29) (by decide +kernel)), wA_sub_7 _ (List.mem_of_getElem? (i := 30) (by decide +kernel))⟩
theorem mlX9_tell : MLk yX9_tell cX9_tell 2 (some .int) 1 := ⟨wA_sub_7 _ (List.mem_of_getElem? (i := 35) (by decide +kernel)), wA_sub_0 _ (List.mem_of_getElem? (i := 76) (by decide +kernel)), by decide +kernel, by decide +kernel, by decide +kernel⟩
theorem vlX9_tell : VLk yX9_tell := ⟨wA_sub_7 _ (List.mem_of_getElem? (i := 33) (by decide +kernel)), wA_sub_7 _ (List.mem_of_getElem? (i := 34) (by decide +kernel))⟩
theorem mlX9_check : MLk yX9_check cX9_check 3 (some .int) 0 := ⟨wA_sub_7 _ (List.mem_of_getElem? (i := 39) (by decide +kernel)), wA_sub_0 _ (List.mem_of_getElem? (i := 76) (by decide +kernel)), by decide +kernel, by decide +kernel, by decide +kernel⟩
theorem vlX9_check : VLk yX9_check := ⟨wA_sub_7 _ (List.mem_of_getElem? (i := 37) (by decide +kernel)), wA_sub_7 _ (List.mem_of_getElem? (i := 38) (by decide +kernel))⟩
theorem mlX9_count : MLk yX9_count cX9_count 2 (some .int) 1 := ⟨wA_sub_7 _ (List.mem_of_getElem? (i := 43) (by decide +kernel)), wA_sub_0 _ (List.mem_of_getElem? (i := 76) (by decide +kernel)), by decide +kernel, by decide +kernel, by decide +kernel⟩
theorem vlX9_count : VLk yX9_count := ⟨wA_sub_7 _ (List.mem_of_getElem? (i := 41) (by decide +kernel)), wA_sub_7 _ (List.mem_of_getElem? (i := 42) (by decide +kernel))⟩
theorem mlX9_told : MLk yX9_told cX9_told 2 (some .int) 1 := ⟨wA_sub_7 _ (List.mem_of_getElem? (i := 47) (by decide +kernel)), wA_sub_0 _ (List.mem_of_getElem? (i := 76) (by decide +kernel)), by decide +kernel, by decide +kernel, by decide +kernel⟩
theorem vlX9_told : VLk yX9_told := ⟨wA_sub_7 _ (List.mem_of_getElem? (i := 45) (by decide +kernel)), wA_sub_7 _ (List.mem_of_getElem? (i := 46) (by decide +kernel))⟩
theorem mlX10_init : MLk yX10_init cX10_init 1 none 0 := ⟨wA_sub_7 _ (List.mem_of_getElem? (i := 52) (by decide +kernel)), wA_sub_0 _ (List.mem_of_getElem? (i := 86) (by decide +kernel)), by decide +kernel, by decide +kernel, by decide +kernel⟩
theorem imX10_init : Cond.instanceMethod yX10_init ∈ wA := wA_sub_7 _ (List.mem_of_getElem? (i := 51) (by decide +kernel))
theorem mlX10_plough : MLk yX10_plough cX10_plough 4 (some .int) 3 := ⟨wA_sub_7 _ (List.mem_of_getElem? (i := 99) (by decide +kernel)), wA_sub_0 _ (List.mem_of_getElem? (i := 86) (by decide +kernel)), by decide +kernel, by decide +kernel, by decide +kernel⟩
theorem vlX10_plough : VLk yX10_plough := ⟨wA_sub_7 _ (List.mem_of_getElem? (i := 97) (by decide +kernel)), wA_sub_7 _ (List.mem_of_getElem? (i := 98) (by decide +kernel))⟩
theorem mlX10_isKm : MLk yX10_isKm cX10_isKm 1 (some .boolean) 1 := ⟨wA_sub_8 _ (List.mem_of_getElem? (i := 2) (by decide +kernel)), wA_sub_0 _ (List.mem_of_getElem? (i := 86) (by decide +kernel)), by decide +kernel, by decide +kernel, by decide +kernel⟩
theorem skX10_isKm : Cond.static yX10_isKm ∈ wA := wA_sub_8 _ (List.mem_of_getElem? (i := 1) (by decide +kernel))
theorem mlX10_in : MLk yX10_in cX10_in 3 (some .boolean) 3 := ⟨wA_sub_8 _ (List.mem_of_getElem? (i := 5) (by decide +kernel)), wA_sub_0 _ (List.mem_of_getElem? (i := 86) (by decide +kernel)), by decide +kernel, by decide +kernel, by decide +kernel⟩
theorem skX10_in : Cond.static yX10_in ∈ wA := wA_sub_8 _ (List.mem_of_getElem? (i := 4) (by decide +kernel))
theorem mlX10_isLine : MLk yX10_isLine cX10_isLine 1 (some .boolean) 1 := ⟨wA_sub_8 _ (List.mem_of_getElem? (i := 8) (by decide +kernel)), wA_sub_0 _ (List.mem_of_getElem? (i := 86) (by decide +kernel)), by decide +kernel, by decide +kernel, by decide +kernel⟩
theorem skX10_isLine : Cond.static yX10_isLine ∈ wA := wA_sub_8 _ (List.mem_of_getElem? (i := 7) (by decide +kernel))
theorem mlX10_error : MLk yX10_error cX10_error 2 (some .int) 1 := ⟨wA_sub_8 _ (List.mem_of_getElem? (i := 12) (by decide +kernel)), wA_sub_0 _ (List.mem_of_getElem? (i := 86) (by decide +kernel)), by decide +kernel, by decide +kernel, by decide +kernel⟩
theorem vlX10_error : VLk yX10_error := ⟨wA_sub_8 _ (List.mem_of_getElem? (i := 11) (by decide +kernel)), wA_sub_0 _ (List.mem_of_getElem? (i := 23) (by decide +kernel))⟩
theorem mlX10_comes : MLk yX10_comes cX10_comes 6 (some .int) 4 := ⟨wA_sub_8 _ (List.mem_of_getElem? (i := 17) (by decide +kernel)), wA_sub_0 _ (List.mem_of_getElem? (i := 86) (by decide +kernel)), by decide +kernel, by decide +kernel, by decide +kernel⟩
theorem vlX10_comes : VLk yX10_comes := ⟨wA_sub_8 _ (List.mem_of_getElem? (i := 16) (by decide +kernel)), wA_sub_0 _ (List.mem_of_getElem? (i := 24) (by decide +kernel))⟩
theorem mlX10_lets : MLk yX10_lets cX10_lets 4 none 3 := ⟨wA_sub_8 _ (List.mem_of_getElem? (i := 20) (by decide +kernel)), wA_sub_0 _ (List.mem_of_getElem? (i := 86) (by decide +kernel)), by decide +kernel, by decide +kernel, by decide +kernel⟩
theorem vlX10_lets : VLk yX10_lets := ⟨wA_sub_8 _ (List.mem_of_getElem? (i := 19) (by decide +kernel)), wA_sub_0 _ (List.mem_of_getElem? (i := 25) (by decide +kernel))⟩
theorem mlX10_furrowIs : MLk yX10_furrowIs cX10_furrowIs 3 (some .int) 2 := ⟨wA_sub_8 _ (List.mem_of_getElem? (i := 24) (by decide +kernel)), wA_sub_0 _ (List.mem_of_getElem? (i := 86) (by decide +kernel)), by decide +kernel, by decide +kernel, by decide +kernel⟩
theorem vlX10_furrowIs : VLk yX10_furrowIs := ⟨wA_sub_8 _ (List.mem_of_getElem? (i := 22) (by decide +kernel)), wA_sub_8 _ (List.mem_of_getElem? (i := 23) (by decide +kernel))⟩
theorem mlX10_isFurrow : MLk yX10_isFurrow cX10_isFurrow 2 (some .boolean) 1 := ⟨wA_sub_8 _ (List.mem_of_getElem? (i := 27) (by decide +kernel)), wA_sub_0 _ (List.mem_of_getElem? (i := 86) (by decide +kernel)), by decide +kernel, by decide +kernel, by decide +kernel⟩
theorem vlX10_isFurrow : VLk yX10_isFurrow := ⟨wA_sub_8 _ (List.mem_of_getElem? (i := 26) (by decide +kernel)), wA_sub_0 _ (List.mem_of_getElem? (i := 26) (by decide +kernel))⟩
theorem mlX10_of : MLk yX10_of cX10_of 3 (some .int) 2 := ⟨wA_sub_8 _ (List.mem_of_getElem? (i := 30) (by decide +kernel)), wA_sub_0 _ (List.mem_of_getElem? (i := 86) (by decide +kernel)), by decide +kernel, by decide +kernel, by decide +kernel⟩
theorem vlX10_of : VLk yX10_of := ⟨wA_sub_8 _ (List.mem_of_getElem? (i := 29) (by decide +kernel)), wA_sub_0 _ (List.mem_of_getElem? (i := 27) (by decide +kernel))⟩
theorem mlX10_depthOf : MLk yX10_depthOf cX10_depthOf 3 (some .int) 1 := ⟨wA_sub_8 _ (List.mem_of_getElem? (i := 33) (by decide +kernel)), wA_sub_0 _ (List.mem_of_getElem? (i := 86) (by decide +kernel)), by decide +kernel, by decide +kernel, by decide +kernel⟩
theorem vlX10_depthOf : VLk yX10_depthOf := ⟨wA_sub_8 _ (List.mem_of_getElem? (i := 32) (by decide +kernel)), wA_sub_0 _ (List.mem_of_getElem? (i := 28) (by decide +kernel))⟩
theorem mlX10_senseOf : MLk yX10_senseOf cX10_senseOf 2 (some .int) 1 := ⟨wA_sub_8 _ (List.mem_of_getElem? (i := 36) (by decide +kernel)), wA_sub_0 _ (List.mem_of_getElem? (i := 86) (by decide +kernel)), by decide +kernel, by decide +kernel, by decide +kernel⟩
theorem vlX10_senseOf : VLk yX10_senseOf := ⟨wA_sub_8 _ (List.mem_of_getElem? (i := 35) (by decide +kernel)), wA_sub_0 _ (List.mem_of_getElem? (i := 29) (by decide +kernel))⟩
theorem mlX10_gives : MLk yX10_gives cX10_gives 7 (some .int) 4 := ⟨wA_sub_8 _ (List.mem_of_getElem? (i := 39) (by decide +kernel)), wA_sub_0 _ (List.mem_of_getElem? (i := 86) (by decide +kernel)), by decide +kernel, by decide +kernel, by decide +kernel⟩
theorem vlX10_gives : VLk yX10_gives := ⟨wA_sub_8 _ (List.mem_of_getElem? (i := 38) (by decide +kernel)), wA_sub_0 _ (List.mem_of_getElem? (i := 30) (by decide +kernel))⟩
theorem mlX10_works : MLk yX10_works cX10_works 5 (some .int) 1 := ⟨wA_sub_8 _ (List.mem_of_getElem? (i := 42) (by decide +kernel)), wA_sub_0 _ (List.mem_of_getElem? (i := 86) (by decide +kernel)), by decide +kernel, by decide +kernel, by decide +kernel⟩
theorem vlX10_works : VLk yX10_works := ⟨wA_sub_8 _ (List.mem_of_getElem? (i := 41) (by decide +kernel)), wA_sub_0 _ (List.mem_of_getElem? (i := 31) (by decide +kernel))⟩
theorem mlX10_twoOf : MLk yX10_twoOf cX10_twoOf 3 (some .int) 3 := ⟨wA_sub_8 _ (List.mem_of_getElem? (i := 45) (by decide +kernel)), wA_sub_0 _ (List.mem_of_getElem? (i := 86) (by decide +kernel)), by decide +kernel, by decide +kernel, by decide +kernel⟩
theorem skX10_twoOf : Cond.static yX10_twoOf ∈ wA := wA_sub_8 _ (List.mem_of_getElem? (i := 44) (by decide +kernel))
theorem mlX10_held : MLk yX10_held cX10_held 3 (some .int) 3 := ⟨wA_sub_8 _ (List.mem_of_getElem? (i := 48) (by decide +kernel)), wA_sub_0 _ (List.mem_of_getElem? (i := 86) (by decide +kernel)), by decide +kernel, by decide +kernel, by decide +kernel⟩
theorem skX10_held : Cond.static yX10_held ∈ wA := wA_sub_8 _ (List.mem_of_getElem? (i := 47) (by decide +kernel))
theorem mlX10_isHeard : MLk yX10_isHeard cX10_isHeard 3 (some .boolean) 1 := ⟨wA_sub_8 _ (List.mem_of_getElem? (i := 51) (by decide +kernel)), wA_sub_0 _ (List.mem_of_getElem? (i := 86) (by decide +kernel)), by decide +kernel, by decide +kernel, by decide +kernel⟩
theorem vlX10_isHeard : VLk yX10_isHeard := ⟨wA_sub_8 _ (List.mem_of_getElem? (i := 50) (by decide +kernel)), wA_sub_0 _ (List.mem_of_getElem? (i := 32) (by decide +kernel))⟩
theorem mlX10_behind : MLk yX10_behind cX10_behind 3 (some .int) 1 := ⟨wA_sub_8 _ (List.mem_of_getElem? (i := 54) (by decide +kernel)), wA_sub_0 _ (List.mem_of_getElem? (i := 86) (by decide +kernel)), by decide +kernel, by decide +kernel, by decide +kernel⟩
theorem vlX10_behind : VLk yX10_behind := ⟨wA_sub_8 _ (List.mem_of_getElem? (i := 53) (by decide +kernel)), wA_sub_0 _ (List.mem_of_getElem? (i := 33) (by decide +kernel))⟩
theorem mlX10_isSeen : MLk yX10_isSeen cX10_isSeen 2 (some .boolean) 1 := ⟨wA_sub_8 _ (List.mem_of_getElem? (i := 57) (by decide +kernel)), wA_sub_0 _ (List.mem_of_getElem? (i := 86) (by decide +kernel)), by decide +kernel, by decide +kernel, by decide +kernel⟩
theorem vlX10_isSeen : VLk yX10_isSeen := ⟨wA_sub_8 _ (List.mem_of_getElem? (i := 56) (by decide +kernel)), wA_sub_0 _ (List.mem_of_getElem? (i := 34) (by decide +kernel))⟩
theorem mlX10_doesAnswer : MLk yX10_doesAnswer cX10_doesAnswer 6 (some .boolean) 2 := ⟨wA_sub_8 _ (List.mem_of_getElem? (i := 60) (by decide +kernel)), wA_sub_0 _ (List.mem_of_getElem? (i := 86) (by decide +kernel)), by decide +kernel, by decide +kernel, by decide +kernel⟩
theorem vlX10_doesAnswer : VLk yX10_doesAnswer := ⟨wA_sub_8 _ (List.mem_of_getElem? (i := 59) (by decide +kernel)), wA_sub_0 _ (List.mem_of_getElem? (i := 35) (by decide +kernel))⟩
theorem mlX10_become : MLk yX10_become cX10_become 3 (some .int) 2 := ⟨wA_sub_8 _ (List.mem_of_getElem? (i := 64) (by decide +kernel)), wA_sub_0 _ (List.mem_of_getElem? (i := 86) (by decide +kernel)), by decide +kernel, by decide +kernel, by decide +kernel⟩
theorem vlX10_become : VLk yX10_become := ⟨wA_sub_8 _ (List.mem_of_getElem? (i := 62) (by decide +kernel)), wA_sub_8 _ (List.mem_of_getElem? (i := 63) (by decide +kernel))⟩
theorem mlX10_becomes : MLk yX10_becomes cX10_becomes 4 (some .int) 2 := ⟨wA_sub_8 _ (List.mem_of_getElem? (i := 67) (by decide +kernel)), wA_sub_0 _ (List.mem_of_getElem? (i := 86) (by decide +kernel)), by decide +kernel, by decide +kernel, by decide +kernel⟩
theorem vlX10_becomes : VLk yX10_becomes := ⟨wA_sub_8 _ (List.mem_of_getElem? (i := 66) (by decide +kernel)), wA_sub_0 _ (List.mem_of_getElem? (i := 36) (by decide +kernel))⟩
theorem mlX10_as : MLk yX10_as cX10_as 5 (some .int) 2 := ⟨wA_sub_8 _ (List.mem_of_getElem? (i := 71) (by decide +kernel)), wA_sub_0 _ (List.mem_of_getElem? (i := 86) (by decide +kernel)), by decide +kernel, by decide +kernel, by decide +kernel⟩
theorem vlX10_as : VLk yX10_as := ⟨wA_sub_8 _ (List.mem_of_getElem? (i := 69) (by decide +kernel)), wA_sub_8 _ (List.mem_of_getElem? (i := 70) (by decide +kernel))⟩
theorem mlX10_answers : MLk yX10_answers cX10_answers 3 (some .int) 2 := ⟨wA_sub_8 _ (List.mem_of_getElem? (i := 76) (by decide +kernel)), wA_sub_0 _ (List.mem_of_getElem? (i := 86) (by decide +kernel)), by decide +kernel, by decide +kernel, by decide +kernel⟩
theorem vlX10_answers : VLk yX10_answers := ⟨wA_sub_8 _ (List.mem_of_getElem? (i := 74) (by decide +kernel)), wA_sub_8 _ (List.mem_of_getElem? (i := 75) (by decide +kernel))⟩
theorem mlX10_cover : MLk yX10_cover cX10_cover 3 (some .int) 2 := ⟨wA_sub_8 _ (List.mem_of_getElem? (i := 80) (by decide +kernel)), wA_sub_0 _ (List.mem_of_getElem? (i := 86) (by decide +kernel)), by decide +kernel, by decide +kernel, by decide +kernel⟩
theorem vlX10_cover : VLk yX10_cover := ⟨wA_sub_8 _ (List.mem_of_getElem? (i := 78) (by decide +kernel)), wA_sub_8 _ (List.mem_of_getElem? (i := 79) (by decide +kernel))⟩
theorem mlX10_redraw : MLk yX10_redraw cX10_redraw 4 (some .int) 2 := ⟨wA_sub_8 _ (List.mem_of_getElem? (i := 84) (by decide +kernel)), wA_sub_0 _ (List.mem_of_getElem? (i := 86) (by decide +kernel)), by decide +kernel, by decide +kernel, by decide +kernel⟩
theorem vlX10_redraw : VLk yX10_redraw := ⟨wA_sub_8 _ (List.mem_of_getElem? (i := 82) (by decide +kernel)), wA_sub_8 _ (List.mem_of_getElem? (i := 83) (by decide +kernel))⟩
theorem mlX10_patience : MLk yX10_patience cX10_patience 2 (some .int) 1 := ⟨wA_sub_8 _ (List.mem_of_getElem? (i := 88) (by decide +kernel)), wA_sub_0 _ (List.mem_of_getElem? (i := 86) (by decide +kernel)), by decide +kernel, by decide +kernel, by decide +kernel⟩
theorem vlX10_patience : VLk yX10_patience := ⟨wA_sub_8 _ (List.mem_of_getElem? (i := 86) (by decide +kernel)), wA_sub_8 _ (List.mem_of_getElem? (i := 87) (by decide +kernel))⟩
theorem mlX10_feed : MLk yX10_feed cX10_feed 5 (some .int) 2 := ⟨wA_sub_8 _ (List.mem_of_getElem? (i := 92) (by decide +kernel)), wA_sub_0 _ (List.mem_of_getElem? (i := 86) (by decide +kernel)), by decide +kernel, by decide +kernel, by decide +kernel⟩
theorem vlX10_feed : VLk yX10_feed := ⟨wA_sub_8 _ (List.mem_of_getElem? (i := 90) (by decide +kernel)), wA_sub_8 _ (List.mem_of_getElem? (i := 91) (by decide +kernel))⟩
theorem mlX10_text : MLk yX10_text cX10_text 4 (some .int) 1 := ⟨wA_sub_8 _ (List.mem_of_getElem? (i := 97) (by decide +kernel)), wA_sub_0 _ (List.mem_of_getElem? (i := 86) (by decide +kernel)), by decide +kernel, by decide +kernel, by decide +kernel⟩
theorem vlX10_text : VLk yX10_text := ⟨wA_sub_8 _ (List.mem_of_getElem? (i := 95) (by decide +kernel)), wA_sub_8 _ (List.mem_of_getElem? (i := 96) (by decide +kernel))⟩
theorem mlX10_any : MLk yX10_any cX10_any 1 none 0 := ⟨wA_sub_9 _ (List.mem_of_getElem? (i := 0) (by decide +kernel)), wA_sub_0 _ (List.mem_of_getElem? (i := 86) (by decide +kernel)), by decide +kernel, by decide +kernel, by decide +kernel⟩
theorem vlX10_any : VLk yX10_any := ⟨wA_sub_8 _ (List.mem_of_getElem? (i := 99) (by decide +kernel)), wA_sub_0 _ (List.mem_of_getElem? (i := 37) (by decide +kernel))⟩
theorem mlX10_all : MLk yX10_all cX10_all 1 none 0 := ⟨wA_sub_9 _ (List.mem_of_getElem? (i := 3) (by decide +kernel)), wA_sub_0 _ (List.mem_of_getElem? (i := 86) (by decide +kernel)), by decide +kernel, by decide +kernel, by decide +kernel⟩
theorem vlX10_all : VLk yX10_all := ⟨wA_sub_9 _ (List.mem_of_getElem? (i := 2) (by decide +kernel)), wA_sub_0 _ (List.mem_of_getElem? (i := 38) (by decide +kernel))⟩
theorem mlX10_compares : MLk yX10_compares cX10_compares 2 none 0 := ⟨wA_sub_9 _ (List.mem_of_getElem? (i := 6) (by decide +kernel)), wA_sub_0 _ (List.mem_of_getElem? (i := 86) (by decide +kernel)), by decide +kernel, by decide +kernel, by decide +kernel⟩
theorem vlX10_compares : VLk yX10_compares := ⟨wA_sub_9 _ (List.mem_of_getElem? (i := 5) (by decide +kernel)), wA_sub_0 _ (List.mem_of_getElem? (i := 39) (by decide +kernel))⟩
theorem mlX10_sum : MLk yX10_sum cX10_sum 2 none 0 := ⟨wA_sub_9 _ (List.mem_of_getElem? (i := 9) (by decide +kernel)), wA_sub_0 _ (List.mem_of_getElem? (i := 86) (by decide +kernel)), by decide +kernel, by decide +kernel, by decide +kernel⟩
theorem vlX10_sum : VLk yX10_sum := ⟨wA_sub_9 _ (List.mem_of_getElem? (i := 8) (by decide +kernel)), wA_sub_0 _ (List.mem_of_getElem? (i := 40) (by decide +kernel))⟩
theorem mlX10_times : MLk yX10_times cX10_times 2 none 0 := ⟨wA_sub_9 _ (List.mem_of_getElem? (i := 12) (by decide +kernel)), wA_sub_0 _ (List.mem_of_getElem? (i := 86) (by decide +kernel)), by decide +kernel, by decide +kernel, by decide +kernel⟩
theorem vlX10_times : VLk yX10_times := ⟨wA_sub_9 _ (List.mem_of_getElem? (i := 11) (by decide +kernel)), wA_sub_0 _ (List.mem_of_getElem? (i := 41) (by decide +kernel))⟩
theorem mlX10_one : MLk yX10_one cX10_one 3 none 0 := ⟨wA_sub_9 _ (List.mem_of_getElem? (i := 15) (by decide +kernel)), wA_sub_0 _ (List.mem_of_getElem? (i := 86) (by decide +kernel)), by decide +kernel, by decide +kernel, by decide +kernel⟩
theorem vlX10_one : VLk yX10_one := ⟨wA_sub_9 _ (List.mem_of_getElem? (i := 14) (by decide +kernel)), wA_sub_0 _ (List.mem_of_getElem? (i := 42) (by decide +kernel))⟩
theorem mlX10_look : MLk yX10_look cX10_look 1 (some .int) 0 := ⟨wA_sub_9 _ (List.mem_of_getElem? (i := 18) (by decide +kernel)), wA_sub_0 _ (List.mem_of_getElem? (i := 86) (by decide +kernel)), by decide +kernel, by decide +kernel, by decide +kernel⟩
theorem vlX10_look : VLk yX10_look := ⟨wA_sub_9 _ (List.mem_of_getElem? (i := 17) (by decide +kernel)), wA_sub_0 _ (List.mem_of_getElem? (i := 43) (by decide +kernel))⟩
theorem mlX10_nameOf : MLk yX10_nameOf cX10_nameOf 2 (some .int) 1 := ⟨wA_sub_9 _ (List.mem_of_getElem? (i := 21) (by decide +kernel)), wA_sub_0 _ (List.mem_of_getElem? (i := 86) (by decide +kernel)), by decide +kernel, by decide +kernel, by decide +kernel⟩
theorem vlX10_nameOf : VLk yX10_nameOf := ⟨wA_sub_9 _ (List.mem_of_getElem? (i := 20) (by decide +kernel)), wA_sub_0 _ (List.mem_of_getElem? (i := 44) (by decide +kernel))⟩
theorem mlX10_step : MLk yX10_step cX10_step 3 none 2 := ⟨wA_sub_9 _ (List.mem_of_getElem? (i := 24) (by decide +kernel)), wA_sub_0 _ (List.mem_of_getElem? (i := 86) (by decide +kernel)), by decide +kernel, by decide +kernel, by decide +kernel⟩
theorem vlX10_step : VLk yX10_step := ⟨wA_sub_9 _ (List.mem_of_getElem? (i := 23) (by decide +kernel)), wA_sub_0 _ (List.mem_of_getElem? (i := 45) (by decide +kernel))⟩
theorem mlX10_opens : MLk yX10_opens cX10_opens 2 none 1 := ⟨wA_sub_9 _ (List.mem_of_getElem? (i := 27) (by decide +kernel)), wA_sub_0 _ (List.mem_of_getElem? (i := 86) (by decide +kernel)), by decide +kernel, by decide +kernel, by decide +kernel⟩
theorem vlX10_opens : VLk yX10_opens := ⟨wA_sub_9 _ (List.mem_of_getElem? (i := 26) (by decide +kernel)), wA_sub_0 _ (List.mem_of_getElem? (i := 46) (by decide +kernel))⟩
theorem mlX10_number : MLk yX10_number cX10_number 3 none 0 := ⟨wA_sub_9 _ (List.mem_of_getElem? (i := 30) (by decide +kernel)), wA_sub_0 _ (List.mem_of_getElem? (i := 86) (by decide +kernel)), by decide +kernel, by decide +kernel, by decide +kernel⟩
theorem vlX10_number : VLk yX10_number := ⟨wA_sub_9 _ (List.mem_of_getElem? (i := 29) (by decide +kernel)), wA_sub_0 _ (List.mem_of_getElem? (i := 47) (by decide +kernel))⟩
theorem mlX10_untell : MLk yX10_untell cX10_untell 2 (some .int) 1 := ⟨wA_sub_9 _ (List.mem_of_getElem? (i := 34) (by decide +kernel)), wA_sub_0 _ (List.mem_of_getElem? (i := 86) (by decide +kernel)), by decide +kernel, by decide +kernel, by decide +kernel⟩
theorem vlX10_untell : VLk yX10_untell := ⟨wA_sub_9 _ (List.mem_of_getElem? (i := 32) (by decide +kernel)), wA_sub_9 _ (List.mem_of_getElem? (i := 33) (by decide +kernel))⟩
theorem mlX10_law : MLk yX10_law cX10_law 5 (some .int) 4 := ⟨wA_sub_9 _ (List.mem_of_getElem? (i := 38) (by decide +kernel)), wA_sub_0 _ (List.mem_of_getElem? (i := 86) (by decide +kernel)), by decide +kernel, by decide +kernel, by decide +kernel⟩
theorem vlX10_law : VLk yX10_law := ⟨wA_sub_9 _ (List.mem_of_getElem? (i := 36) (by decide +kernel)), wA_sub_9 _ (List.mem_of_getElem? (i := 37) (by decide +kernel))⟩
theorem mlX10_years : MLk yX10_years cX10_years 3 (some .int) 1 := ⟨wA_sub_9 _ (List.mem_of_getElem? (i := 42) (by decide +kernel)), wA_sub_0 _ (List.mem_of_getElem? (i := 86) (by decide +kernel)), by decide +kernel, by decide +kernel, by decide +kernel⟩
theorem vlX10_years : VLk yX10_years := ⟨wA_sub_9 _ (List.mem_of_getElem? (i := 40) (by decide +kernel)), wA_sub_9 _ (List.mem_of_getElem? (i := 41) (by decide +kernel))⟩
theorem mlX10_goes : MLk yX10_goes cX10_goes 3 none 0 := ⟨wA_sub_9 _ (List.mem_of_getElem? (i := 46) (by decide +kernel)), wA_sub_0 _ (List.mem_of_getElem? (i := 86) (by decide +kernel)), by decide +kernel, by decide +kernel, by decide +kernel⟩
theorem vlX10_goes : VLk yX10_goes := ⟨wA_sub_9 _ (List.mem_of_getElem? (i := 45) (by decide +kernel)), wA_sub_0 _ (List.mem_of_getElem? (i := 48) (by decide +kernel))⟩
theorem mlX10_seen : MLk yX10_seen cX10_seen 3 (some .int) 0 := ⟨wA_sub_9 _ (List.mem_of_getElem? (i := 49) (by decide +kernel)), wA_sub_0 _ (List.mem_of_getElem? (i := 86) (by decide +kernel)), by decide +kernel, by decide +kernel, by decide +kernel⟩
theorem vlX10_seen : VLk yX10_seen := ⟨wA_sub_9 _ (List.mem_of_getElem? (i := 48) (by decide +kernel)), wA_sub_0 _ (List.mem_of_getElem? (i := 49) (by decide +kernel))⟩
theorem mlX10_bits : MLk yX10_bits cX10_bits 3 (some .int) 1 := ⟨wA_sub_9 _ (List.mem_of_getElem? (i := 52) (by decide +kernel)), wA_sub_0 _ (List.mem_of_getElem? (i := 86) (by decide +kernel)), by decide +kernel, by decide +kernel, by decide +kernel⟩
theorem skX10_bits : Cond.static yX10_bits ∈ wA := wA_sub_9 _ (List.mem_of_getElem? (i := 51) (by decide +kernel))
theorem mlX10_loose : MLk yX10_loose cX10_loose 6 (some .int) 1 := ⟨wA_sub_9 _ (List.mem_of_getElem? (i := 56) (by decide +kernel)), wA_sub_0 _ (List.mem_of_getElem? (i := 86) (by decide +kernel)), by decide +kernel, by decide +kernel, by decide +kernel⟩
theorem vlX10_loose : VLk yX10_loose := ⟨wA_sub_9 _ (List.mem_of_getElem? (i := 54) (by decide +kernel)), wA_sub_9 _ (List.mem_of_getElem? (i := 55) (by decide +kernel))⟩
theorem mlX10_draw : MLk yX10_draw cX10_draw 1 (some .int) 0 := ⟨wA_sub_9 _ (List.mem_of_getElem? (i := 59) (by decide +kernel)), wA_sub_0 _ (List.mem_of_getElem? (i := 86) (by decide +kernel)), by decide +kernel, by decide +kernel, by decide +kernel⟩
theorem vlX10_draw : VLk yX10_draw := ⟨wA_sub_9 _ (List.mem_of_getElem? (i := 58) (by decide +kernel)), wA_sub_0 _ (List.mem_of_getElem? (i := 50) (by decide +kernel))⟩
theorem mlX10_seed : MLk yX10_seed cX10_seed 2 (some .int) 1 := ⟨wA_sub_9 _ (List.mem_of_getElem? (i := 64) (by decide +kernel)), wA_sub_0 _ (List.mem_of_getElem? (i := 86) (by decide +kernel)), by decide +kernel, by decide +kernel, by decide +kernel⟩
theorem vlX10_seed : VLk yX10_seed := ⟨wA_sub_9 _ (List.mem_of_getElem? (i := 62) (by decide +kernel)), wA_sub_9 _ (List.mem_of_getElem? (i := 63) (by decide +kernel))⟩
theorem mlX10_talk : MLk yX10_talk cX10_talk 2 (some .int) 1 := ⟨wA_sub_9 _ (List.mem_of_getElem? (i := 68) (by decide +kernel)), wA_sub_0 _ (List.mem_of_getElem? (i := 86) (by decide +kernel)), by decide +kernel, by decide +kernel, by decide +kernel⟩
theorem vlX10_talk : VLk yX10_talk := ⟨wA_sub_9 _ (List.mem_of_getElem? (i := 66) (by decide +kernel)), wA_sub_9 _ (List.mem_of_getElem? (i := 67) (by decide +kernel))⟩
theorem mlX10_longestTalk : MLk yX10_longestTalk cX10_longestTalk 4 (some .int) 0 := ⟨wA_sub_9 _ (List.mem_of_getElem? (i := 71) (by decide +kernel)), wA_sub_0 _ (List.mem_of_getElem? (i := 86) (by decide +kernel)), by decide +kernel, by decide +kernel, by decide +kernel⟩
theorem vlX10_longestTalk : VLk yX10_longestTalk := ⟨wA_sub_9 _ (List.mem_of_getElem? (i := 70) (by decide +kernel)), wA_sub_0 _ (List.mem_of_getElem? (i := 51) (by decide +kernel))⟩
theorem mlX10_isAnswer : MLk yX10_isAnswer cX10_isAnswer 3 (some .boolean) 1 := ⟨wA_sub_9 _ (List.mem_of_getElem? (i := 74) (by decide +kernel)), wA_sub_0 _ (List.mem_of_getElem? (i := 86) (by decide +kernel)), by decide +kernel, by decide +kernel, by decide +kernel⟩
theorem vlX10_isAnswer : VLk yX10_isAnswer := ⟨wA_sub_9 _ (List.mem_of_getElem? (i := 73) (by decide +kernel)), wA_sub_0 _ (List.mem_of_getElem? (i := 52) (by decide +kernel))⟩
theorem mlX10_ahead : MLk yX10_ahead cX10_ahead 3 (some .int) 1 := ⟨wA_sub_9 _ (List.mem_of_getElem? (i := 77) (by decide +kernel)), wA_sub_0 _ (List.mem_of_getElem? (i := 86) (by decide +kernel)), by decide +kernel, by decide +kernel, by decide +kernel⟩
theorem vlX10_ahead : VLk yX10_ahead := ⟨wA_sub_9 _ (List.mem_of_getElem? (i := 76) (by decide +kernel)), wA_sub_0 _ (List.mem_of_getElem? (i := 53) (by decide +kernel))⟩
theorem mlX10_answersSeen : MLk yX10_answersSeen cX10_answersSeen 3 (some .int) 0 := ⟨wA_sub_9 _ (List.mem_of_getElem? (i := 80) (by decide +kernel)), wA_sub_0 _ (List.mem_of_getElem? (i := 86) (by decide +kernel)), by decide +kernel, by decide +kernel, by decide +kernel⟩
theorem vlX10_answersSeen : VLk yX10_answersSeen := ⟨wA_sub_9 _ (List.mem_of_getElem? (i := 79) (by decide +kernel)), wA_sub_0 _ (List.mem_of_getElem? (i := 54) (by decide +kernel))⟩
theorem mlX10_meaning : MLk yX10_meaning cX10_meaning 5 (some .int) 1 := ⟨wA_sub_9 _ (List.mem_of_getElem? (i := 84) (by decide +kernel)), wA_sub_0 _ (List.mem_of_getElem? (i := 86) (by decide +kernel)), by decide +kernel, by decide +kernel, by decide +kernel⟩
theorem vlX10_meaning : VLk yX10_meaning := ⟨wA_sub_9 _ (List.mem_of_getElem? (i := 82) (by decide +kernel)), wA_sub_9 _ (List.mem_of_getElem? (i := 83) (by decide +kernel))⟩
theorem mlX10_then : MLk yX10_then cX10_then 4 (some .int) 2 := ⟨wA_sub_9 _ (List.mem_of_getElem? (i := 88) (by decide +kernel)), wA_sub_0 _ (List.mem_of_getElem? (i := 86) (by decide +kernel)), by decide +kernel, by decide +kernel, by decide +kernel⟩
theorem vlX10_then : VLk yX10_then := ⟨wA_sub_9 _ (List.mem_of_getElem? (i := 86) (by decide +kernel)), wA_sub_9 _ (List.mem_of_getElem? (i := 87) (by decide +kernel))⟩
theorem mlX10_thinks : MLk yX10_thinks cX10_thinks 1 none 0 := ⟨wA_sub_9 _ (List.mem_of_getElem? (i := 91) (by decide +kernel)), wA_sub_0 _ (List.mem_of_getElem? (i := 86) (by decide +kernel)), by decide +kernel, by decide +kernel, by decide +kernel⟩
theorem vlX10_thinks : VLk yX10_thinks := ⟨wA_sub_9 _ (List.mem_of_getElem? (i := 90) (by decide +kernel)), wA_sub_0 _ (List.mem_of_getElem? (i := 55) (by decide +kernel))⟩
theorem mlX10_copyAll : MLk yX10_copyAll cX10_copyAll 3 none 2 := ⟨wA_sub_9 _ (List.mem_of_getElem? (i := 94) (by decide +kernel)), wA_sub_0 _ (List.mem_of_getElem? (i := 86) (by decide +kernel)), by decide +kernel, by decide +kernel, by decide +kernel⟩
theorem skX10_copyAll : Cond.static yX10_copyAll ∈ wA := wA_sub_9 _ (List.mem_of_getElem? (i := 93) (by decide +kernel))
theorem mlX10_putsBack : MLk yX10_putsBack cX10_putsBack 1 none 0 := ⟨wA_sub_9 _ (List.mem_of_getElem? (i := 97) (by decide +kernel)), wA_sub_0 _ (List.mem_of_getElem? (i := 86) (by decide +kernel)), by decide +kernel, by decide +kernel, by decide +kernel⟩
theorem vlX10_putsBack : VLk yX10_putsBack := ⟨wA_sub_9 _ (List.mem_of_getElem? (i := 96) (by decide +kernel)), wA_sub_0 _ (List.mem_of_getElem? (i := 56) (by decide +kernel))⟩
theorem mlX10_fewest : MLk yX10_fewest cX10_fewest 5 (some .int) 1 := ⟨wA_sub_10 _ (List.mem_of_getElem? (i := 1) (by decide +kernel)), wA_sub_0 _ (List.mem_of_getElem? (i := 86) (by decide +kernel)), by decide +kernel, by decide +kernel, by decide +kernel⟩
theorem vlX10_fewest : VLk yX10_fewest := ⟨wA_sub_9 _ (List.mem_of_getElem? (i := 99) (by decide +kernel)), wA_sub_10 _ (List.mem_of_getElem? (i := 0) (by decide +kernel))⟩
theorem mlX10_isTalk : MLk yX10_isTalk cX10_isTalk 5 (some .boolean) 1 := ⟨wA_sub_10 _ (List.mem_of_getElem? (i := 4) (by decide +kernel)), wA_sub_0 _ (List.mem_of_getElem? (i := 86) (by decide +kernel)), by decide +kernel, by decide +kernel, by decide +kernel⟩
theorem vlX10_isTalk : VLk yX10_isTalk := ⟨wA_sub_10 _ (List.mem_of_getElem? (i := 3) (by decide +kernel)), wA_sub_0 _ (List.mem_of_getElem? (i := 57) (by decide +kernel))⟩
theorem mlX10_reply : MLk yX10_reply cX10_reply 7 (some .int) 2 := ⟨wA_sub_10 _ (List.mem_of_getElem? (i := 8) (by decide +kernel)), wA_sub_0 _ (List.mem_of_getElem? (i := 86) (by decide +kernel)), by decide +kernel, by decide +kernel, by decide +kernel⟩
theorem vlX10_reply : VLk yX10_reply := ⟨wA_sub_10 _ (List.mem_of_getElem? (i := 6) (by decide +kernel)), wA_sub_10 _ (List.mem_of_getElem? (i := 7) (by decide +kernel))⟩
theorem mlX10_lastSeen : MLk yX10_lastSeen cX10_lastSeen 1 (some .int) 0 := ⟨wA_sub_10 _ (List.mem_of_getElem? (i := 11) (by decide +kernel)), wA_sub_0 _ (List.mem_of_getElem? (i := 86) (by decide +kernel)), by decide +kernel, by decide +kernel, by decide +kernel⟩
theorem vlX10_lastSeen : VLk yX10_lastSeen := ⟨wA_sub_10 _ (List.mem_of_getElem? (i := 10) (by decide +kernel)), wA_sub_0 _ (List.mem_of_getElem? (i := 58) (by decide +kernel))⟩
theorem mlX10_findCosts : MLk yX10_findCosts cX10_findCosts 6 none 1 := ⟨wA_sub_10 _ (List.mem_of_getElem? (i := 14) (by decide +kernel)), wA_sub_0 _ (List.mem_of_getElem? (i := 86) (by decide +kernel)), by decide +kernel, by decide +kernel, by decide +kernel⟩
theorem vlX10_findCosts : VLk yX10_findCosts := ⟨wA_sub_10 _ (List.mem_of_getElem? (i := 13) (by decide +kernel)), wA_sub_0 _ (List.mem_of_getElem? (i := 59) (by decide +kernel))⟩
theorem mlX10_stepCost : MLk yX10_stepCost cX10_stepCost 6 (some .int) 2 := ⟨wA_sub_10 _ (List.mem_of_getElem? (i := 17) (by decide +kernel)), wA_sub_0 _ (List.mem_of_getElem? (i := 86) (by decide +kernel)), by decide +kernel, by decide +kernel, by decide +kernel⟩
theorem vlX10_stepCost : VLk yX10_stepCost := ⟨wA_sub_10 _ (List.mem_of_getElem? (i := 16) (by decide +kernel)), wA_sub_0 _ (List.mem_of_getElem? (i := 60) (by decide +kernel))⟩
theorem mlX10_odds : MLk yX10_odds cX10_odds 8 (some .int) 3 := ⟨wA_sub_10 _ (List.mem_of_getElem? (i := 21) (by decide +kernel)), wA_sub_0 _ (List.mem_of_getElem? (i := 86) (by decide +kernel)), by decide +kernel, by decide +kernel, by decide +kernel⟩
theorem vlX10_odds : VLk yX10_odds := ⟨wA_sub_10 _ (List.mem_of_getElem? (i := 19) (by decide +kernel)), wA_sub_10 _ (List.mem_of_getElem? (i := 20) (by decide +kernel))⟩
theorem mlX10_fits : MLk yX10_fits cX10_fits 4 (some .int) 1 := ⟨wA_sub_10 _ (List.mem_of_getElem? (i := 25) (by decide +kernel)), wA_sub_0 _ (List.mem_of_getElem? (i := 86) (by decide +kernel)), by decide +kernel, by decide +kernel, by decide +kernel⟩
theorem vlX10_fits : VLk yX10_fits := ⟨wA_sub_10 _ (List.mem_of_getElem? (i := 23) (by decide +kernel)), wA_sub_10 _ (List.mem_of_getElem? (i := 24) (by decide +kernel))⟩
theorem mlX10_notThere : MLk yX10_notThere cX10_notThere 2 (some .int) 1 := ⟨wA_sub_10 _ (List.mem_of_getElem? (i := 28) (by decide +kernel)), wA_sub_0 _ (List.mem_of_getElem? (i := 86) (by decide +kernel)), by decide +kernel, by decide +kernel, by decide +kernel⟩
theorem vlX10_notThere : VLk yX10_notThere := ⟨wA_sub_10 _ (List.mem_of_getElem? (i := 27) (by decide +kernel)), wA_sub_0 _ (List.mem_of_getElem? (i := 61) (by decide +kernel))⟩
theorem mlX10_isSheet : MLk yX10_isSheet cX10_isSheet 1 (some .boolean) 1 := ⟨wA_sub_10 _ (List.mem_of_getElem? (i := 31) (by decide +kernel)), wA_sub_0 _ (List.mem_of_getElem? (i := 86) (by decide +kernel)), by decide +kernel, by decide +kernel, by decide +kernel⟩
theorem skX10_isSheet : Cond.static yX10_isSheet ∈ wA := wA_sub_10 _ (List.mem_of_getElem? (i := 30) (by decide +kernel))
theorem mlX10_isSo : MLk yX10_isSo cX10_isSo 5 (some .boolean) 1 := ⟨wA_sub_10 _ (List.mem_of_getElem? (i := 35) (by decide +kernel)), wA_sub_0 _ (List.mem_of_getElem? (i := 86) (by decide +kernel)), by decide +kernel, by decide +kernel, by decide +kernel⟩
theorem vlX10_isSo : VLk yX10_isSo := ⟨wA_sub_10 _ (List.mem_of_getElem? (i := 34) (by decide +kernel)), wA_sub_0 _ (List.mem_of_getElem? (i := 62) (by decide +kernel))⟩
theorem mlX10_voice : MLk yX10_voice cX10_voice 5 (some .int) 3 := ⟨wA_sub_10 _ (List.mem_of_getElem? (i := 39) (by decide +kernel)), wA_sub_0 _ (List.mem_of_getElem? (i := 86) (by decide +kernel)), by decide +kernel, by decide +kernel, by decide +kernel⟩
theorem vlX10_voice : VLk yX10_voice := ⟨wA_sub_10 _ (List.mem_of_getElem? (i := 37) (by decide +kernel)), wA_sub_10 _ (List.mem_of_getElem? (i := 38) (by decide +kernel))⟩
theorem mlX10_says : MLk yX10_says cX10_says 3 (some .int) 2 := ⟨wA_sub_10 _ (List.mem_of_getElem? (i := 42) (by decide +kernel)), wA_sub_0 _ (List.mem_of_getElem? (i := 86) (by decide +kernel)), by decide +kernel, by decide +kernel, by decide +kernel⟩
theorem vlX10_says : VLk yX10_says := ⟨wA_sub_10 _ (List.mem_of_getElem? (i := 41) (by decide +kernel)), wA_sub_0 _ (List.mem_of_getElem? (i := 63) (by decide +kernel))⟩
theorem mlX10_oathSays : MLk yX10_oathSays cX10_oathSays 3 (some .int) 2 := ⟨wA_sub_10 _ (List.mem_of_getElem? (i := 45) (by decide +kernel)), wA_sub_0 _ (List.mem_of_getElem? (i := 86) (by decide +kernel)), by decide +kernel, by decide +kernel, by decide +kernel⟩
theorem vlX10_oathSays : VLk yX10_oathSays := ⟨wA_sub_10 _ (List.mem_of_getElem? (i := 44) (by decide +kernel)), wA_sub_0 _ (List.mem_of_getElem? (i := 64) (by decide +kernel))⟩
theorem mlX10_begins : MLk yX10_begins cX10_begins 2 none 1 := ⟨wA_sub_10 _ (List.mem_of_getElem? (i := 48) (by decide +kernel)), wA_sub_0 _ (List.mem_of_getElem? (i := 86) (by decide +kernel)), by decide +kernel, by decide +kernel, by decide +kernel⟩
theorem vlX10_begins : VLk yX10_begins := ⟨wA_sub_10 _ (List.mem_of_getElem? (i := 47) (by decide +kernel)), wA_sub_0 _ (List.mem_of_getElem? (i := 65) (by decide +kernel))⟩
theorem mlX10_plainSays : MLk yX10_plainSays cX10_plainSays 3 (some .int) 2 := ⟨wA_sub_10 _ (List.mem_of_getElem? (i := 51) (by decide +kernel)), wA_sub_0 _ (List.mem_of_getElem? (i := 86) (by decide +kernel)), by decide +kernel, by decide +kernel, by decide +kernel⟩
theorem vlX10_plainSays : VLk yX10_plainSays := ⟨wA_sub_10 _ (List.mem_of_getElem? (i := 50) (by decide +kernel)), wA_sub_0 _ (List.mem_of_getElem? (i := 66) (by decide +kernel))⟩
theorem mlX10_asks : MLk yX10_asks cX10_asks 3 (some .int) 2 := ⟨wA_sub_10 _ (List.mem_of_getElem? (i := 54) (by decide +kernel)), wA_sub_0 _ (List.mem_of_getElem? (i := 86) (by decide +kernel)), by decide +kernel, by decide +kernel, by decide +kernel⟩
theorem vlX10_asks : VLk yX10_asks := ⟨wA_sub_10 _ (List.mem_of_getElem? (i := 53) (by decide +kernel)), wA_sub_0 _ (List.mem_of_getElem? (i := 67) (by decide +kernel))⟩
theorem mlX10_roundAsks : MLk yX10_roundAsks cX10_roundAsks 3 (some .int) 2 := ⟨wA_sub_10 _ (List.mem_of_getElem? (i := 57) (by decide +kernel)), wA_sub_0 _ (List.mem_of_getElem? (i := 86) (by decide +kernel)), by decide +kernel, by decide +kernel, by decide +kernel⟩
theorem vlX10_roundAsks : VLk yX10_roundAsks := ⟨wA_sub_10 _ (List.mem_of_getElem? (i := 56) (by decide +kernel)), wA_sub_0 _ (List.mem_of_getElem? (i := 68) (by decide +kernel))⟩
theorem mlX10_plainAsks : MLk yX10_plainAsks cX10_plainAsks 3 (some .int) 2 := ⟨wA_sub_10 _ (List.mem_of_getElem? (i := 60) (by decide +kernel)), wA_sub_0 _ (List.mem_of_getElem? (i := 86) (by decide +kernel)), by decide +kernel, by decide +kernel, by decide +kernel⟩
theorem vlX10_plainAsks : VLk yX10_plainAsks := ⟨wA_sub_10 _ (List.mem_of_getElem? (i := 59) (by decide +kernel)), wA_sub_0 _ (List.mem_of_getElem? (i := 69) (by decide +kernel))⟩
theorem mlX10_hums : MLk yX10_hums cX10_hums 3 (some .int) 2 := ⟨wA_sub_10 _ (List.mem_of_getElem? (i := 63) (by decide +kernel)), wA_sub_0 _ (List.mem_of_getElem? (i := 86) (by decide +kernel)), by decide +kernel, by decide +kernel, by decide +kernel⟩
theorem vlX10_hums : VLk yX10_hums := ⟨wA_sub_10 _ (List.mem_of_getElem? (i := 62) (by decide +kernel)), wA_sub_0 _ (List.mem_of_getElem? (i := 70) (by decide +kernel))⟩
theorem mlX10_plainHums : MLk yX10_plainHums cX10_plainHums 3 (some .int) 2 := ⟨wA_sub_10 _ (List.mem_of_getElem? (i := 66) (by decide +kernel)), wA_sub_0 _ (List.mem_of_getElem? (i := 86) (by decide +kernel)), by decide +kernel, by decide +kernel, by decide +kernel⟩
theorem vlX10_plainHums : VLk yX10_plainHums := ⟨wA_sub_10 _ (List.mem_of_getElem? (i := 65) (by decide +kernel)), wA_sub_0 _ (List.mem_of_getElem? (i := 71) (by decide +kernel))⟩
theorem mlX10_parts : MLk yX10_parts cX10_parts 4 (some .int) 2 := ⟨wA_sub_10 _ (List.mem_of_getElem? (i := 69) (by decide +kernel)), wA_sub_0 _ (List.mem_of_getElem? (i := 86) (by decide +kernel)), by decide +kernel, by decide +kernel, by decide +kernel⟩
theorem vlX10_parts : VLk yX10_parts := ⟨wA_sub_10 _ (List.mem_of_getElem? (i := 68) (by decide +kernel)), wA_sub_0 _ (List.mem_of_getElem? (i := 72) (by decide +kernel))⟩
theorem mlX10_plainParts : MLk yX10_plainParts cX10_plainParts 4 (some .int) 2 := ⟨wA_sub_10 _ (List.mem_of_getElem? (i := 72) (by decide +kernel)), wA_sub_0 _ (List.mem_of_getElem? (i := 86) (by decide +kernel)), by decide +kernel, by decide +kernel, by decide +kernel⟩
theorem vlX10_plainParts : VLk yX10_plainParts := ⟨wA_sub_10 _ (List.mem_of_getElem? (i := 71) (by decide +kernel)), wA_sub_0 _ (List.mem_of_getElem? (i := 73) (by decide +kernel))⟩
theorem mlX10_body : MLk yX10_body cX10_body 2 (some .int) 1 := ⟨wA_sub_10 _ (List.mem_of_getElem? (i := 77) (by decide +kernel)), wA_sub_0 _ (List.mem_of_getElem? (i := 86) (by decide +kernel)), by decide +kernel, by decide +kernel, by decide +kernel⟩
theorem vlX10_body : VLk yX10_body := ⟨wA_sub_10 _ (List.mem_of_getElem? (i := 75) (by decide +kernel)), wA_sub_10 _ (List.mem_of_getElem? (i := 76) (by decide +kernel))⟩
theorem mlX10_sheet : MLk yX10_sheet cX10_sheet 5 (some .int) 3 := ⟨wA_sub_10 _ (List.mem_of_getElem? (i := 81) (by decide +kernel)), wA_sub_0 _ (List.mem_of_getElem? (i := 86) (by decide +kernel)), by decide +kernel, by decide +kernel, by decide +kernel⟩
theorem vlX10_sheet : VLk yX10_sheet := ⟨wA_sub_10 _ (List.mem_of_getElem? (i := 79) (by decide +kernel)), wA_sub_10 _ (List.mem_of_getElem? (i := 80) (by decide +kernel))⟩
theorem mlX10_put : MLk yX10_put cX10_put 5 (some .int) 3 := ⟨wA_sub_10 _ (List.mem_of_getElem? (i := 85) (by decide +kernel)), wA_sub_0 _ (List.mem_of_getElem? (i := 86) (by decide +kernel)), by decide +kernel, by decide +kernel, by decide +kernel⟩
theorem vlX10_put : VLk yX10_put := ⟨wA_sub_10 _ (List.mem_of_getElem? (i := 83) (by decide +kernel)), wA_sub_10 _ (List.mem_of_getElem? (i := 84) (by decide +kernel))⟩
theorem mlX10_move : MLk yX10_move cX10_move 9 (some .int) 5 := ⟨wA_sub_10 _ (List.mem_of_getElem? (i := 89) (by decide +kernel)), wA_sub_0 _ (List.mem_of_getElem? (i := 86) (by decide +kernel)), by decide +kernel, by decide +kernel, by decide +kernel⟩
theorem vlX10_move : VLk yX10_move := ⟨wA_sub_10 _ (List.mem_of_getElem? (i := 87) (by decide +kernel)), wA_sub_10 _ (List.mem_of_getElem? (i := 88) (by decide +kernel))⟩
theorem mlX10_notMoved : MLk yX10_notMoved cX10_notMoved 7 (some .int) 5 := ⟨wA_sub_10 _ (List.mem_of_getElem? (i := 92) (by decide +kernel)), wA_sub_0 _ (List.mem_of_getElem? (i := 86) (by decide +kernel)), by decide +kernel, by decide +kernel, by decide +kernel⟩
theorem vlX10_notMoved : VLk yX10_notMoved := ⟨wA_sub_10 _ (List.mem_of_getElem? (i := 91) (by decide +kernel)), wA_sub_0 _ (List.mem_of_getElem? (i := 74) (by decide +kernel))⟩
theorem mlX10_lines : MLk yX10_lines cX10_lines 4 (some .int) 1 := ⟨wA_sub_10 _ (List.mem_of_getElem? (i := 96) (by decide +kernel)), wA_sub_0 _ (List.mem_of_getElem? (i := 86) (by decide +kernel)), by decide +kernel, by decide +kernel, by decide +kernel⟩
theorem vlX10_lines : VLk yX10_lines := ⟨wA_sub_10 _ (List.mem_of_getElem? (i := 94) (by decide +kernel)), wA_sub_10 _ (List.mem_of_getElem? (i := 95) (by decide +kernel))⟩
theorem mlX10_judge : MLk yX10_judge cX10_judge 4 (some .int) 1 := ⟨wA_sub_11 _ (List.mem_of_getElem? (i := 0) (by decide +kernel)), wA_sub_0 _ (List.mem_of_getElem? (i := 86) (by decide +kernel)), by decide +kernel, by decide +kernel, by decide +kernel⟩
theorem vlX10_judge : VLk yX10_judge := ⟨wA_sub_10 _ (List.mem_of_getElem? (i := 98) (by decide +kernel)), wA_sub_10 _ (List.mem_of_getElem? (i := 99) (by decide +kernel))⟩
theorem mlX10_image : MLk yX10_image cX10_image 1 (some .int) 0 := ⟨wA_sub_11 _ (List.mem_of_getElem? (i := 4) (by decide +kernel)), wA_sub_0 _ (List.mem_of_getElem? (i := 86) (by decide +kernel)), by decide +kernel, by decide +kernel, by decide +kernel⟩
theorem vlX10_image : VLk yX10_image := ⟨wA_sub_11 _ (List.mem_of_getElem? (i := 2) (by decide +kernel)), wA_sub_11 _ (List.mem_of_getElem? (i := 3) (by decide +kernel))⟩
theorem mlX10_restore : MLk yX10_restore cX10_restore 1 (some .int) 0 := ⟨wA_sub_11 _ (List.mem_of_getElem? (i := 8) (by decide +kernel)), wA_sub_0 _ (List.mem_of_getElem? (i := 86) (by decide +kernel)), by decide +kernel, by decide +kernel, by decide +kernel⟩
theorem vlX10_restore : VLk yX10_restore := ⟨wA_sub_11 _ (List.mem_of_getElem? (i := 6) (by decide +kernel)), wA_sub_11 _ (List.mem_of_getElem? (i := 7) (by decide +kernel))⟩
theorem mlX10_tell : MLk yX10_tell cX10_tell 2 (some .int) 1 := ⟨wA_sub_11 _ (List.mem_of_getElem? (i := 12) (by decide +kernel)), wA_sub_0 _ (List.mem_of_getElem? (i := 86) (by decide +kernel)), by decide +kernel, by decide +kernel, by decide +kernel⟩
theorem vlX10_tell : VLk yX10_tell := ⟨wA_sub_11 _ (List.mem_of_getElem? (i := 10) (by decide +kernel)), wA_sub_11 _ (List.mem_of_getElem? (i := 11) (by decide +kernel))⟩
theorem mlX10_check : MLk yX10_check cX10_check 3 (some .int) 0 := ⟨wA_sub_11 _ (List.mem_of_getElem? (i := 16) (by decide +kernel)), wA_sub_0 _ (List.mem_of_getElem? (i := 86) (by decide +kernel)), by decide +kernel, by decide +kernel, by decide +kernel⟩
theorem vlX10_check : VLk yX10_check := ⟨wA_sub_11 _ (List.mem_of_getElem? (i := 14) (by decide +kernel)), wA_sub_11 _ (List.mem_of_getElem? (i := 15) (by decide +kernel))⟩
theorem mlX10_count : MLk yX10_count cX10_count 2 (some .int) 1 := ⟨wA_sub_11 _ (List.mem_of_getElem? (i := 20) (by decide +kernel)), wA_sub_0 _ (List.mem_of_getElem? (i := 86) (by decide +kernel)), by decide +kernel, by decide +kernel, by decide +kernel⟩
theorem vlX10_count : VLk yX10_count := ⟨wA_sub_11 _ (List.mem_of_getElem? (i := 18) (by decide +kernel)), wA_sub_11 _ (List.mem_of_getElem? (i := 19) (by decide +kernel))⟩
theorem mlX10_told : MLk yX10_told cX10_told 2 (some .int) 1 := ⟨wA_sub_11 _ (List.mem_of_getElem? (i := 24) (by decide +kernel)), wA_sub_0 _ (List.mem_of_getElem? (i := 86) (by decide +kernel)), by decide +kernel, by decide +kernel, by decide +kernel⟩
theorem vlX10_told : VLk yX10_told := ⟨wA_sub_11 _ (List.mem_of_getElem? (i := 22) (by decide +kernel)), wA_sub_11 _ (List.mem_of_getElem? (i := 23) (by decide +kernel))⟩
theorem mwX9_3 : Cond.methodLink RX9 3 objectInit ∈ wA := wA_sub_0 _ (List.mem_of_getElem? (i := 95) (by decide +kernel))
theorem mwX9_11 : Cond.methodLink RX9 11 yX8_init ∈ wA := wA_sub_1 _ (List.mem_of_getElem? (i := 0) (by decide +kernel))
theorem mwX9_21 : Cond.methodLink RX9 21 yX1_init ∈ wA := wA_sub_1 _ (List.mem_of_getElem? (i := 95) (by decide +kernel))
theorem mwX9_42 : Cond.methodLink RX9 42 yX4_init ∈ wA := wA_sub_2 _ (List.mem_of_getElem? (i := 6) (by decide +kernel))
theorem mwX9_77 : Cond.methodLink RX9 77 yX9_isKindWithNumber ∈ wA := wA_sub_2 _ (List.mem_of_getElem? (i := 99) (by decide +kernel))
theorem mwX9_81 : Cond.methodLink RX9 81 yX9_isLine ∈ wA := wA_sub_3 _ (List.mem_of_getElem? (i := 2) (by decide +kernel))
theorem mwX9_84 : Cond.methodLink RX9 84 yX9_isHand ∈ wA := wA_sub_3 _ (List.mem_of_getElem? (i := 5) (by decide +kernel))
theorem mwX9_88 : Cond.methodLink RX9 88 yX9_refuse ∈ wA := wA_sub_3 _ (List.mem_of_getElem? (i := 9) (by decide +kernel))
theorem mwX9_100 : Cond.methodLink RX9 100 yX1_add ∈ wA := wA_sub_3 _ (List.mem_of_getElem? (i := 14) (by decide +kernel))
theorem mwX9_104 : Cond.methodLink RX9 104 yX9_isFurrow ∈ wA := wA_sub_3 _ (List.mem_of_getElem? (i := 30) (by decide +kernel))
theorem mwX9_133 : Cond.methodLink RX9 133 yX9_asNumber ∈ wA := wA_sub_3 _ (List.mem_of_getElem? (i := 33) (by decide +kernel))
theorem mwX9_137 : Cond.methodLink RX9 137 yX2_depth ∈ wA := wA_sub_3 _ (List.mem_of_getElem? (i := 36) (by decide +kernel))
theorem mwX9_141 : Cond.methodLink RX9 141 yX8_senseOf ∈ wA := wA_sub_3 _ (List.mem_of_getElem? (i := 40) (by decide +kernel))
theorem mwX9_145 : Cond.methodLink RX9 145 yX1_isHeard ∈ wA := wA_sub_3 _ (List.mem_of_getElem? (i := 74) (by decide +kernel))
theorem mwX9_148 : Cond.methodLink RX9 148 yX2_setKindAndNumber ∈ wA := wA_sub_3 _ (List.mem_of_getElem? (i := 93) (by decide +kernel))
theorem mwX9_151 : Cond.methodLink RX9 151 yX9_isKind ∈ wA := wA_sub_3 _ (List.mem_of_getElem? (i := 98) (by decide +kernel))
theorem mwX9_154 : Cond.methodLink RX9 154 yX2_isOfKind ∈ wA := wA_sub_4 _ (List.mem_of_getElem? (i := 1) (by decide +kernel))
theorem mwX9_158 : Cond.methodLink RX9 158 yX1_echoes ∈ wA := wA_sub_4 _ (List.mem_of_getElem? (i := 10) (by decide +kernel))
theorem mwX9_162 : Cond.methodLink RX9 162 yX2_line ∈ wA := wA_sub_4 _ (List.mem_of_getElem? (i := 19) (by decide +kernel))
theorem mwX9_165 : Cond.methodLink RX9 165 yX2_setLine ∈ wA := wA_sub_4 _ (List.mem_of_getElem? (i := 23) (by decide +kernel))
theorem mwX9_178 : Cond.methodLink RX9 178 yX9_isUse ∈ wA := wA_sub_4 _ (List.mem_of_getElem? (i := 36) (by decide +kernel))
theorem mwX9_181 : Cond.methodLink RX9 181 yX7_read ∈ wA := wA_sub_4 _ (List.mem_of_getElem? (i := 39) (by decide +kernel))
theorem mwX9_196 : Cond.methodLink RX9 196 yX3_copyFrom ∈ wA := wA_sub_4 _ (List.mem_of_getElem? (i := 79) (by decide +kernel))
theorem mwX9_202 : Cond.methodLink RX9 202 yX3_isGiven ∈ wA := wA_sub_4 _ (List.mem_of_getElem? (i := 90) (by decide +kernel))
theorem mwX9_206 : Cond.methodLink RX9 206 yX3_clear ∈ wA := wA_sub_4 _ (List.mem_of_getElem? (i := 91) (by decide +kernel))
theorem mwX9_209 : Cond.methodLink RX9 209 yX8_giveUse ∈ wA := wA_sub_4 _ (List.mem_of_getElem? (i := 96) (by decide +kernel))
theorem mwX9_217 : Cond.methodLink RX9 217 yX1_passYears ∈ wA := wA_sub_5 _ (List.mem_of_getElem? (i := 2) (by decide +kernel))
theorem mwX9_220 : Cond.methodLink RX9 220 yX1_seenCount ∈ wA := wA_sub_5 _ (List.mem_of_getElem? (i := 15) (by decide +kernel))
theorem mwX9_223 : Cond.methodLink RX9 223 yX1_passYearByDraws ∈ wA := wA_sub_5 _ (List.mem_of_getElem? (i := 33) (by decide +kernel))
theorem mwX9_229 : Cond.methodLink RX9 229 yX1_longestTalk ∈ wA := wA_sub_5 _ (List.mem_of_getElem? (i := 52) (by decide +kernel))
theorem mwX9_232 : Cond.methodLink RX9 232 yX1_answerCount ∈ wA := wA_sub_5 _ (List.mem_of_getElem? (i := 65) (by decide +kernel))
theorem mwX9_235 : Cond.methodLink RX9 235 yX1_isAnswer ∈ wA := wA_sub_5 _ (List.mem_of_getElem? (i := 73) (by decide +kernel))
theorem mwX9_238 : Cond.methodLink RX9 238 yX1_copyFrom ∈ wA := wA_sub_5 _ (List.mem_of_getElem? (i := 78) (by decide +kernel))
theorem mwX9_241 : Cond.methodLink RX9 241 yX1_seenSet ∈ wA := wA_sub_5 _ (List.mem_of_getElem? (i := 86) (by decide +kernel))
theorem mwX9_244 : Cond.methodLink RX9 244 yX0_bestSet ∈ wA := wA_sub_5 _ (List.mem_of_getElem? (i := 91) (by decide +kernel))
theorem mwX9_248 : Cond.methodLink RX9 248 yJ6_bitCount_0f7a4 ∈ wA := wA_sub_6 _ (List.mem_of_getElem? (i := 0) (by decide +kernel))
theorem mwX9_253 : Cond.methodLink RX9 253 yX1_seenAhead ∈ wA := wA_sub_6 _ (List.mem_of_getElem? (i := 5) (by decide +kernel))
theorem mwX9_259 : Cond.methodLink RX9 259 yX4_measureTo ∈ wA := wA_sub_6 _ (List.mem_of_getElem? (i := 6) (by decide +kernel))
theorem mwX9_265 : Cond.methodLink RX9 265 yX9_firstReplyLine ∈ wA := wA_sub_6 _ (List.mem_of_getElem? (i := 21) (by decide +kernel))
theorem mwX9_268 : Cond.methodLink RX9 268 yX9_linesThatEcho ∈ wA := wA_sub_6 _ (List.mem_of_getElem? (i := 32) (by decide +kernel))
theorem mwX9_271 : Cond.methodLink RX9 271 yX9_commonDivisor ∈ wA := wA_sub_6 _ (List.mem_of_getElem? (i := 37) (by decide +kernel))
theorem mwX9_274 : Cond.methodLink RX9 274 yX9_isSheet ∈ wA := wA_sub_6 _ (List.mem_of_getElem? (i := 44) (by decide +kernel))
theorem mwX9_277 : Cond.methodLink RX9 277 yX5_isMissing ∈ wA := wA_sub_6 _ (List.mem_of_getElem? (i := 47) (by decide +kernel))
theorem mwX9_281 : Cond.methodLink RX9 281 yX9_tellsLengths ∈ wA := wA_sub_6 _ (List.mem_of_getElem? (i := 52) (by decide +kernel))
theorem mwX9_285 : Cond.methodLink RX9 285 yX1_passYear ∈ wA := wA_sub_6 _ (List.mem_of_getElem? (i := 55) (by decide +kernel))
theorem mwX9_288 : Cond.methodLink RX9 288 yX6_speak ∈ wA := wA_sub_6 _ (List.mem_of_getElem? (i := 60) (by decide +kernel))
theorem mwX9_302 : Cond.methodLink RX9 302 yX5_lay ∈ wA := wA_sub_6 _ (List.mem_of_getElem? (i := 88) (by decide +kernel))
theorem mwX9_307 : Cond.methodLink RX9 307 yX5_write ∈ wA := wA_sub_6 _ (List.mem_of_getElem? (i := 96) (by decide +kernel))
theorem mwX9_313 : Cond.methodLink RX9 313 yX5_holds ∈ wA := wA_sub_7 _ (List.mem_of_getElem? (i := 4) (by decide +kernel))
theorem mwX9_319 : Cond.methodLink RX9 319 arraycopyName ∈ wA ∧ Cond.native arraycopyName ∈ wA ∧ Cond.static arraycopyName ∈ wA ∧ Cond.initialized "java/lang/System" ∈ wA := ⟨wA_sub_7 _ (List.mem_of_getElem? (i := 8) (by decide +kernel)), wA_sub_4 _ (List.mem_of_getElem? (i := 85) (by decide +kernel)), wA_sub_4 _ (List.mem_of_getElem? (i := 84) (by decide +kernel)), wA_sub_0 _ (List.mem_of_getElem? (i := 88) (by decide +kernel))⟩
theorem mwX9_325 : Cond.methodLink RX9 325 Lib.Math.min.name ∈ wA ∧ Cond.static Lib.Math.min.name ∈ wA ∧ Cond.initialized "java/lang/Math" ∈ wA ∧ Cond.code Lib.Math.min.name Lib.Math.min.code 2 (some .int) ∈ wA := ⟨wA_sub_3 _ (List.mem_of_getElem? (i := 68) (by decide +kernel)), wA_sub_3 _ (List.mem_of_getElem? (i := 69) (by decide +kernel)), wA_sub_0 _ (List.mem_of_getElem? (i := 87) (by decide +kernel)), wA_sub_3 _ (List.mem_of_getElem? (i := 70) (by decide +kernel))⟩
theorem mwX9_331 : Cond.methodLink RX9 331 yX8_copyFrom ∈ wA := wA_sub_7 _ (List.mem_of_getElem? (i := 21) (by decide +kernel))
theorem mwX9_344 : Cond.methodLink RX9 344 yX4_leastFirstStep ∈ wA := wA_sub_6 _ (List.mem_of_getElem? (i := 24) (by decide +kernel))
theorem mwX9_347 : Cond.methodLink RX9 347 yX9_lineAt ∈ wA := wA_sub_6 _ (List.mem_of_getElem? (i := 35) (by decide +kernel))
theorem mwX9_350 : Cond.methodLink RX9 350 yX2_echoes ∈ wA := wA_sub_6 _ (List.mem_of_getElem? (i := 36) (by decide +kernel))
theorem mwX9_353 : Cond.methodLink RX9 353 Lib.Math.max.name ∈ wA ∧ Cond.static Lib.Math.max.name ∈ wA ∧ Cond.initialized "java/lang/Math" ∈ wA ∧ Cond.code Lib.Math.max.name Lib.Math.max.code 2 (some .int) ∈ wA := ⟨wA_sub_3 _ (List.mem_of_getElem? (i := 71) (by decide +kernel)), wA_sub_3 _ (List.mem_of_getElem? (i := 72) (by decide +kernel)), wA_sub_0 _ (List.mem_of_getElem? (i := 87) (by decide +kernel)), wA_sub_3 _ (List.mem_of_getElem? (i := 73) (by decide +kernel))⟩
theorem mwX0_3 : Cond.methodLink RX0 3 objectInit ∈ wA := wA_sub_2 _ (List.mem_of_getElem? (i := 1) (by decide +kernel))
theorem mwX0_31 : Cond.methodLink RX0 31 yX0_bestAhead ∈ wA := wA_sub_5 _ (List.mem_of_getElem? (i := 95) (by decide +kernel))
theorem mwX0_35 : Cond.methodLink RX0 35 Lib.Math.max.name ∈ wA ∧ Cond.static Lib.Math.max.name ∈ wA ∧ Cond.initialized "java/lang/Math" ∈ wA ∧ Cond.code Lib.Math.max.name Lib.Math.max.code 2 (some .int) ∈ wA := ⟨wA_sub_5 _ (List.mem_of_getElem? (i := 99) (by decide +kernel)), wA_sub_3 _ (List.mem_of_getElem? (i := 72) (by decide +kernel)), wA_sub_0 _ (List.mem_of_getElem? (i := 87) (by decide +kernel)), wA_sub_3 _ (List.mem_of_getElem? (i := 73) (by decide +kernel))⟩
theorem mwX0_41 : Cond.methodLink RX0 41 yX1_echoes ∈ wA := wA_sub_5 _ (List.mem_of_getElem? (i := 98) (by decide +kernel))
theorem mwX1_3 : Cond.methodLink RX1 3 objectInit ∈ wA := wA_sub_1 _ (List.mem_of_getElem? (i := 9) (by decide +kernel))
theorem mwX1_28 : Cond.methodLink RX1 28 yX2_setKindAndNumber ∈ wA := wA_sub_3 _ (List.mem_of_getElem? (i := 18) (by decide +kernel))
theorem mwX1_32 : Cond.methodLink RX1 32 yX2_setLine ∈ wA := wA_sub_3 _ (List.mem_of_getElem? (i := 22) (by decide +kernel))
theorem mwX1_45 : Cond.methodLink RX1 45 yX2_echoes ∈ wA := wA_sub_3 _ (List.mem_of_getElem? (i := 82) (by decide +kernel))
theorem mwX1_49 : Cond.methodLink RX1 49 yX1_echoes ∈ wA := wA_sub_3 _ (List.mem_of_getElem? (i := 78) (by decide +kernel))
theorem mwX1_52 : Cond.methodLink RX1 52 yX1_seenAhead ∈ wA := wA_sub_5 _ (List.mem_of_getElem? (i := 60) (by decide +kernel))
theorem mwX1_56 : Cond.methodLink RX1 56 yX1_seenSet ∈ wA := wA_sub_5 _ (List.mem_of_getElem? (i := 19) (by decide +kernel))
theorem mwX1_60 : Cond.methodLink RX1 60 yJ6_bitCount_0f7a4 ∈ wA := wA_sub_5 _ (List.mem_of_getElem? (i := 23) (by decide +kernel))
theorem mwX1_65 : Cond.methodLink RX1 65 yX1_isAnswer ∈ wA := wA_sub_5 _ (List.mem_of_getElem? (i := 56) (by decide +kernel))
theorem mwX1_69 : Cond.methodLink RX1 69 Lib.Math.max.name ∈ wA ∧ Cond.static Lib.Math.max.name ∈ wA ∧ Cond.initialized "java/lang/Math" ∈ wA ∧ Cond.code Lib.Math.max.name Lib.Math.max.code 2 (some .int) ∈ wA := ⟨wA_sub_5 _ (List.mem_of_getElem? (i := 64) (by decide +kernel)), wA_sub_3 _ (List.mem_of_getElem? (i := 72) (by decide +kernel)), wA_sub_0 _ (List.mem_of_getElem? (i := 87) (by decide +kernel)), wA_sub_3 _ (List.mem_of_getElem? (i := 73) (by decide +kernel))⟩
theorem mwX1_75 : Cond.methodLink RX1 75 yX2_goUnheard ∈ wA := wA_sub_5 _ (List.mem_of_getElem? (i := 10) (by decide +kernel))
theorem mwX1_81 : Cond.methodLink RX1 81 yX1_passYear ∈ wA := wA_sub_5 _ (List.mem_of_getElem? (i := 6) (by decide +kernel))
theorem mwX1_84 : Cond.methodLink RX1 84 yX1_nextDraw ∈ wA := wA_sub_5 _ (List.mem_of_getElem? (i := 37) (by decide +kernel))
theorem mwX1_90 : Cond.methodLink RX1 90 yX1_add ∈ wA := wA_sub_5 _ (List.mem_of_getElem? (i := 43) (by decide +kernel))
theorem mwX1_95 : Cond.methodLink RX1 95 yX2_copyFrom ∈ wA := wA_sub_5 _ (List.mem_of_getElem? (i := 82) (by decide +kernel))
theorem mwX2_3 : Cond.methodLink RX2 3 objectInit ∈ wA := wA_sub_1 _ (List.mem_of_getElem? (i := 14) (by decide +kernel))
theorem mwX2_32 : Cond.methodLink RX2 32 yX2_isAlike ∈ wA := wA_sub_3 _ (List.mem_of_getElem? (i := 86) (by decide +kernel))
theorem mwX2_42 : Cond.methodLink RX2 42 Lib.Math.min.name ∈ wA ∧ Cond.static Lib.Math.min.name ∈ wA ∧ Cond.initialized "java/lang/Math" ∈ wA ∧ Cond.code Lib.Math.min.name Lib.Math.min.code 2 (some .int) ∈ wA := ⟨wA_sub_5 _ (List.mem_of_getElem? (i := 14) (by decide +kernel)), wA_sub_3 _ (List.mem_of_getElem? (i := 69) (by decide +kernel)), wA_sub_0 _ (List.mem_of_getElem? (i := 87) (by decide +kernel)), wA_sub_3 _ (List.mem_of_getElem? (i := 70) (by decide +kernel))⟩
theorem mwX3_3 : Cond.methodLink RX3 3 objectInit ∈ wA := wA_sub_1 _ (List.mem_of_getElem? (i := 65) (by decide +kernel))
theorem mwX3_22 : Cond.methodLink RX3 22 arraycopyName ∈ wA ∧ Cond.native arraycopyName ∈ wA ∧ Cond.static arraycopyName ∈ wA ∧ Cond.initialized "java/lang/System" ∈ wA := ⟨wA_sub_4 _ (List.mem_of_getElem? (i := 83) (by decide +kernel)), wA_sub_4 _ (List.mem_of_getElem? (i := 85) (by decide +kernel)), wA_sub_4 _ (List.mem_of_getElem? (i := 84) (by decide +kernel)), wA_sub_0 _ (List.mem_of_getElem? (i := 88) (by decide +kernel))⟩
theorem mwX3_31 : Cond.methodLink RX3 31 yX3_push ∈ wA := wA_sub_3 _ (List.mem_of_getElem? (i := 57) (by decide +kernel))
theorem mwX3_35 : Cond.methodLink RX3 35 yX3_pop ∈ wA := wA_sub_3 _ (List.mem_of_getElem? (i := 60) (by decide +kernel))
theorem mwX3_43 : Cond.methodLink RX3 43 yX3_join ∈ wA := wA_sub_3 _ (List.mem_of_getElem? (i := 63) (by decide +kernel))
theorem mwX4_1 : Cond.methodLink RX4 1 objectInit ∈ wA := wA_sub_2 _ (List.mem_of_getElem? (i := 9) (by decide +kernel))
theorem mwX4_21 : Cond.methodLink RX4 21 yX4_cheapestUnsettled ∈ wA := wA_sub_6 _ (List.mem_of_getElem? (i := 11) (by decide +kernel))
theorem mwX4_25 : Cond.methodLink RX4 25 yX4_reachFrom ∈ wA := wA_sub_6 _ (List.mem_of_getElem? (i := 14) (by decide +kernel))
theorem mwX4_29 : Cond.methodLink RX4 29 Lib.Math.abs.name ∈ wA ∧ Cond.static Lib.Math.abs.name ∈ wA ∧ Cond.initialized "java/lang/Math" ∈ wA ∧ Cond.code Lib.Math.abs.name Lib.Math.abs.code 1 (some .int) ∈ wA := ⟨wA_sub_6 _ (List.mem_of_getElem? (i := 17) (by decide +kernel)), wA_sub_6 _ (List.mem_of_getElem? (i := 18) (by decide +kernel)), wA_sub_0 _ (List.mem_of_getElem? (i := 87) (by decide +kernel)), wA_sub_6 _ (List.mem_of_getElem? (i := 19) (by decide +kernel))⟩
theorem mwX4_35 : Cond.methodLink RX4 35 Lib.Math.min.name ∈ wA ∧ Cond.static Lib.Math.min.name ∈ wA ∧ Cond.initialized "java/lang/Math" ∈ wA ∧ Cond.code Lib.Math.min.name Lib.Math.min.code 2 (some .int) ∈ wA := ⟨wA_sub_6 _ (List.mem_of_getElem? (i := 20) (by decide +kernel)), wA_sub_3 _ (List.mem_of_getElem? (i := 69) (by decide +kernel)), wA_sub_0 _ (List.mem_of_getElem? (i := 87) (by decide +kernel)), wA_sub_3 _ (List.mem_of_getElem? (i := 70) (by decide +kernel))⟩
theorem mwX5_3 : Cond.methodLink RX5 3 objectInit ∈ wA := wA_sub_2 _ (List.mem_of_getElem? (i := 61) (by decide +kernel))
theorem mwX6_3 : Cond.methodLink RX6 3 objectInit ∈ wA := wA_sub_2 _ (List.mem_of_getElem? (i := 41) (by decide +kernel))
theorem mwX6_36 : Cond.methodLink RX6 36 yX6_says ∈ wA := wA_sub_6 _ (List.mem_of_getElem? (i := 64) (by decide +kernel))
theorem mwX6_40 : Cond.methodLink RX6 40 yX6_asks ∈ wA := wA_sub_6 _ (List.mem_of_getElem? (i := 70) (by decide +kernel))
theorem mwX6_43 : Cond.methodLink RX6 43 yX6_hums ∈ wA := wA_sub_6 _ (List.mem_of_getElem? (i := 73) (by decide +kernel))
theorem mwX6_46 : Cond.methodLink RX6 46 yX6_parts ∈ wA := wA_sub_6 _ (List.mem_of_getElem? (i := 76) (by decide +kernel))
theorem mwX6_49 : Cond.methodLink RX6 49 yX6_begin ∈ wA := wA_sub_6 _ (List.mem_of_getElem? (i := 67) (by decide +kernel))
theorem mwX7_3 : Cond.methodLink RX7 3 objectInit ∈ wA := wA_sub_2 _ (List.mem_of_getElem? (i := 23) (by decide +kernel))
theorem mwX7_32 : Cond.methodLink RX7 32 yX3_clear ∈ wA := wA_sub_4 _ (List.mem_of_getElem? (i := 43) (by decide +kernel))
theorem mwX7_35 : Cond.methodLink RX7 35 yX7_readJoined ∈ wA := wA_sub_4 _ (List.mem_of_getElem? (i := 47) (by decide +kernel))
theorem mwX7_39 : Cond.methodLink RX7 39 yX7_readSingle ∈ wA := wA_sub_4 _ (List.mem_of_getElem? (i := 50) (by decide +kernel))
theorem mwX7_43 : Cond.methodLink RX7 43 yX7_signHere ∈ wA := wA_sub_4 _ (List.mem_of_getElem? (i := 53) (by decide +kernel))
theorem mwX7_47 : Cond.methodLink RX7 47 yX7_levelOf ∈ wA := wA_sub_4 _ (List.mem_of_getElem? (i := 76) (by decide +kernel))
theorem mwX7_51 : Cond.methodLink RX7 51 yX3_add ∈ wA := wA_sub_4 _ (List.mem_of_getElem? (i := 62) (by decide +kernel))
theorem mwX7_55 : Cond.methodLink RX7 55 yX7_isDigit ∈ wA := wA_sub_4 _ (List.mem_of_getElem? (i := 56) (by decide +kernel))
theorem mwX7_58 : Cond.methodLink RX7 58 yX7_readNumber ∈ wA := wA_sub_4 _ (List.mem_of_getElem? (i := 59) (by decide +kernel))
theorem mwX7_61 : Cond.methodLink RX7 61 yX7_readName ∈ wA := wA_sub_4 _ (List.mem_of_getElem? (i := 66) (by decide +kernel))
theorem mwX7_64 : Cond.methodLink RX7 64 yX7_readNegated ∈ wA := wA_sub_4 _ (List.mem_of_getElem? (i := 70) (by decide +kernel))
theorem mwX7_67 : Cond.methodLink RX7 67 yX7_readBracketed ∈ wA := wA_sub_4 _ (List.mem_of_getElem? (i := 73) (by decide +kernel))
theorem mwX8_3 : Cond.methodLink RX8 3 objectInit ∈ wA := wA_sub_1 _ (List.mem_of_getElem? (i := 3) (by decide +kernel))
theorem mwX8_11 : Cond.methodLink RX8 11 yX1_init ∈ wA := wA_sub_1 _ (List.mem_of_getElem? (i := 6) (by decide +kernel))
theorem mwX8_33 : Cond.methodLink RX8 33 yX3_isGiven ∈ wA := wA_sub_3 _ (List.mem_of_getElem? (i := 49) (by decide +kernel))
theorem mwX8_37 : Cond.methodLink RX8 37 yX3_workOut ∈ wA := wA_sub_3 _ (List.mem_of_getElem? (i := 53) (by decide +kernel))
theorem mwX8_53 : Cond.methodLink RX8 53 yX2_depth ∈ wA := wA_sub_3 _ (List.mem_of_getElem? (i := 44) (by decide +kernel))
theorem mwX8_57 : Cond.methodLink RX8 57 yX8_giveUse ∈ wA := wA_sub_3 _ (List.mem_of_getElem? (i := 45) (by decide +kernel))
theorem mwX8_61 : Cond.methodLink RX8 61 yX1_copyFrom ∈ wA := wA_sub_7 _ (List.mem_of_getElem? (i := 25) (by decide +kernel))
theorem mwX8_65 : Cond.methodLink RX8 65 yX3_copyFrom ∈ wA := wA_sub_7 _ (List.mem_of_getElem? (i := 26) (by decide +kernel))
theorem mwX8_71 : Cond.methodLink RX8 71 arraycopyName ∈ wA ∧ Cond.native arraycopyName ∈ wA ∧ Cond.static arraycopyName ∈ wA ∧ Cond.initialized "java/lang/System" ∈ wA := ⟨wA_sub_7 _ (List.mem_of_getElem? (i := 27) (by decide +kernel)), wA_sub_4 _ (List.mem_of_getElem? (i := 85) (by decide +kernel)), wA_sub_4 _ (List.mem_of_getElem? (i := 84) (by decide +kernel)), wA_sub_0 _ (List.mem_of_getElem? (i := 88) (by decide +kernel))⟩
theorem mwX10_3 : Cond.methodLink RX10 3 objectInit ∈ wA := wA_sub_7 _ (List.mem_of_getElem? (i := 53) (by decide +kernel))
theorem mwX10_50 : Cond.methodLink RX10 50 yX10_copyAll ∈ wA := wA_sub_9 _ (List.mem_of_getElem? (i := 92) (by decide +kernel))
theorem mwX10_54 : Cond.methodLink RX10 54 yX10_in ∈ wA := wA_sub_8 _ (List.mem_of_getElem? (i := 3) (by decide +kernel))
theorem mwX10_58 : Cond.methodLink RX10 58 yX10_of ∈ wA := wA_sub_8 _ (List.mem_of_getElem? (i := 28) (by decide +kernel))
theorem mwX10_62 : Cond.methodLink RX10 62 yX10_isSeen ∈ wA := wA_sub_8 _ (List.mem_of_getElem? (i := 55) (by decide +kernel))
theorem mwX10_66 : Cond.methodLink RX10 66 yX10_behind ∈ wA := wA_sub_8 _ (List.mem_of_getElem? (i := 52) (by decide +kernel))
theorem mwX10_70 : Cond.methodLink RX10 70 yX10_doesAnswer ∈ wA := wA_sub_8 _ (List.mem_of_getElem? (i := 58) (by decide +kernel))
theorem mwX10_74 : Cond.methodLink RX10 74 yX10_ahead ∈ wA := wA_sub_9 _ (List.mem_of_getElem? (i := 75) (by decide +kernel))
theorem mwX10_77 : Cond.methodLink RX10 77 yX10_depthOf ∈ wA := wA_sub_8 _ (List.mem_of_getElem? (i := 31) (by decide +kernel))
theorem mwX10_80 : Cond.methodLink RX10 80 yX10_gives ∈ wA := wA_sub_8 _ (List.mem_of_getElem? (i := 37) (by decide +kernel))
theorem mwX10_84 : Cond.methodLink RX10 84 yX10_lets ∈ wA := wA_sub_8 _ (List.mem_of_getElem? (i := 18) (by decide +kernel))
theorem mwX10_88 : Cond.methodLink RX10 88 yX10_isKm ∈ wA := wA_sub_8 _ (List.mem_of_getElem? (i := 0) (by decide +kernel))
theorem mwX10_91 : Cond.methodLink RX10 91 yX10_isLine ∈ wA := wA_sub_8 _ (List.mem_of_getElem? (i := 6) (by decide +kernel))
theorem mwX10_95 : Cond.methodLink RX10 95 yX10_error ∈ wA := wA_sub_8 _ (List.mem_of_getElem? (i := 10) (by decide +kernel))
theorem mwX10_99 : Cond.methodLink RX10 99 yX10_comes ∈ wA := wA_sub_8 _ (List.mem_of_getElem? (i := 15) (by decide +kernel))
theorem mwX10_102 : Cond.methodLink RX10 102 yX10_isFurrow ∈ wA := wA_sub_8 _ (List.mem_of_getElem? (i := 25) (by decide +kernel))
theorem mwX10_105 : Cond.methodLink RX10 105 yX10_senseOf ∈ wA := wA_sub_8 _ (List.mem_of_getElem? (i := 34) (by decide +kernel))
theorem mwX10_108 : Cond.methodLink RX10 108 yX10_isHeard ∈ wA := wA_sub_8 _ (List.mem_of_getElem? (i := 49) (by decide +kernel))
theorem mwX10_111 : Cond.methodLink RX10 111 yX10_becomes ∈ wA := wA_sub_8 _ (List.mem_of_getElem? (i := 65) (by decide +kernel))
theorem mwX10_127 : Cond.methodLink RX10 127 yX10_look ∈ wA := wA_sub_9 _ (List.mem_of_getElem? (i := 16) (by decide +kernel))
theorem mwX10_135 : Cond.methodLink RX10 135 yX10_step ∈ wA := wA_sub_9 _ (List.mem_of_getElem? (i := 22) (by decide +kernel))
theorem mwX10_142 : Cond.methodLink RX10 142 yX10_one ∈ wA := wA_sub_9 _ (List.mem_of_getElem? (i := 13) (by decide +kernel))
theorem mwX10_145 : Cond.methodLink RX10 145 yX10_any ∈ wA := wA_sub_8 _ (List.mem_of_getElem? (i := 98) (by decide +kernel))
theorem mwX10_148 : Cond.methodLink RX10 148 yX10_nameOf ∈ wA := wA_sub_9 _ (List.mem_of_getElem? (i := 19) (by decide +kernel))
theorem mwX10_151 : Cond.methodLink RX10 151 yX10_opens ∈ wA := wA_sub_9 _ (List.mem_of_getElem? (i := 25) (by decide +kernel))
theorem mwX10_155 : Cond.methodLink RX10 155 yX10_number ∈ wA := wA_sub_9 _ (List.mem_of_getElem? (i := 28) (by decide +kernel))
theorem mwX10_158 : Cond.methodLink RX10 158 yX10_times ∈ wA := wA_sub_9 _ (List.mem_of_getElem? (i := 10) (by decide +kernel))
theorem mwX10_161 : Cond.methodLink RX10 161 yX10_sum ∈ wA := wA_sub_9 _ (List.mem_of_getElem? (i := 7) (by decide +kernel))
theorem mwX10_164 : Cond.methodLink RX10 164 yX10_compares ∈ wA := wA_sub_9 _ (List.mem_of_getElem? (i := 4) (by decide +kernel))
theorem mwX10_167 : Cond.methodLink RX10 167 yX10_all ∈ wA := wA_sub_9 _ (List.mem_of_getElem? (i := 1) (by decide +kernel))
theorem mwX10_170 : Cond.methodLink RX10 170 yX10_twoOf ∈ wA := wA_sub_8 _ (List.mem_of_getElem? (i := 43) (by decide +kernel))
theorem mwX10_174 : Cond.methodLink RX10 174 yX10_works ∈ wA := wA_sub_8 _ (List.mem_of_getElem? (i := 40) (by decide +kernel))
theorem mwX10_177 : Cond.methodLink RX10 177 yX10_held ∈ wA := wA_sub_8 _ (List.mem_of_getElem? (i := 46) (by decide +kernel))
theorem mwX10_181 : Cond.methodLink RX10 181 yX10_goes ∈ wA := wA_sub_9 _ (List.mem_of_getElem? (i := 44) (by decide +kernel))
theorem mwX10_184 : Cond.methodLink RX10 184 yX10_seen ∈ wA := wA_sub_9 _ (List.mem_of_getElem? (i := 47) (by decide +kernel))
theorem mwX10_187 : Cond.methodLink RX10 187 yX10_bits ∈ wA := wA_sub_9 _ (List.mem_of_getElem? (i := 50) (by decide +kernel))
theorem mwX10_191 : Cond.methodLink RX10 191 yX10_draw ∈ wA := wA_sub_9 _ (List.mem_of_getElem? (i := 57) (by decide +kernel))
theorem mwX10_194 : Cond.methodLink RX10 194 yX10_isAnswer ∈ wA := wA_sub_9 _ (List.mem_of_getElem? (i := 72) (by decide +kernel))
theorem mwX10_197 : Cond.methodLink RX10 197 yX10_longestTalk ∈ wA := wA_sub_9 _ (List.mem_of_getElem? (i := 69) (by decide +kernel))
theorem mwX10_200 : Cond.methodLink RX10 200 yX10_answersSeen ∈ wA := wA_sub_9 _ (List.mem_of_getElem? (i := 78) (by decide +kernel))
theorem mwX10_203 : Cond.methodLink RX10 203 yX10_thinks ∈ wA := wA_sub_9 _ (List.mem_of_getElem? (i := 89) (by decide +kernel))
theorem mwX10_206 : Cond.methodLink RX10 206 yX10_putsBack ∈ wA := wA_sub_9 _ (List.mem_of_getElem? (i := 95) (by decide +kernel))
theorem mwX10_209 : Cond.methodLink RX10 209 yX10_isTalk ∈ wA := wA_sub_10 _ (List.mem_of_getElem? (i := 2) (by decide +kernel))
theorem mwX10_212 : Cond.methodLink RX10 212 yX10_stepCost ∈ wA := wA_sub_10 _ (List.mem_of_getElem? (i := 15) (by decide +kernel))
theorem mwX10_215 : Cond.methodLink RX10 215 yX10_lastSeen ∈ wA := wA_sub_10 _ (List.mem_of_getElem? (i := 9) (by decide +kernel))
theorem mwX10_218 : Cond.methodLink RX10 218 yX10_findCosts ∈ wA := wA_sub_10 _ (List.mem_of_getElem? (i := 12) (by decide +kernel))
theorem mwX10_221 : Cond.methodLink RX10 221 yX10_notThere ∈ wA := wA_sub_10 _ (List.mem_of_getElem? (i := 26) (by decide +kernel))
theorem mwX10_224 : Cond.methodLink RX10 224 yX10_isSo ∈ wA := wA_sub_10 _ (List.mem_of_getElem? (i := 33) (by decide +kernel))
theorem mwX10_231 : Cond.methodLink RX10 231 yX10_begins ∈ wA := wA_sub_10 _ (List.mem_of_getElem? (i := 46) (by decide +kernel))
theorem mwX10_234 : Cond.methodLink RX10 234 yX10_plainSays ∈ wA := wA_sub_10 _ (List.mem_of_getElem? (i := 49) (by decide +kernel))
theorem mwX10_237 : Cond.methodLink RX10 237 yX10_oathSays ∈ wA := wA_sub_10 _ (List.mem_of_getElem? (i := 43) (by decide +kernel))
theorem mwX10_240 : Cond.methodLink RX10 240 yX10_says ∈ wA := wA_sub_10 _ (List.mem_of_getElem? (i := 40) (by decide +kernel))
theorem mwX10_243 : Cond.methodLink RX10 243 yX10_plainAsks ∈ wA := wA_sub_10 _ (List.mem_of_getElem? (i := 58) (by decide +kernel))
theorem mwX10_246 : Cond.methodLink RX10 246 yX10_roundAsks ∈ wA := wA_sub_10 _ (List.mem_of_getElem? (i := 55) (by decide +kernel))
theorem mwX10_249 : Cond.methodLink RX10 249 yX10_asks ∈ wA := wA_sub_10 _ (List.mem_of_getElem? (i := 52) (by decide +kernel))
theorem mwX10_252 : Cond.methodLink RX10 252 yX10_plainHums ∈ wA := wA_sub_10 _ (List.mem_of_getElem? (i := 64) (by decide +kernel))
theorem mwX10_258 : Cond.methodLink RX10 258 yX10_plainParts ∈ wA := wA_sub_10 _ (List.mem_of_getElem? (i := 70) (by decide +kernel))
theorem mwX10_261 : Cond.methodLink RX10 261 yX10_hums ∈ wA := wA_sub_10 _ (List.mem_of_getElem? (i := 61) (by decide +kernel))
theorem mwX10_264 : Cond.methodLink RX10 264 yX10_parts ∈ wA := wA_sub_10 _ (List.mem_of_getElem? (i := 67) (by decide +kernel))
theorem mwX10_268 : Cond.methodLink RX10 268 yX10_isSheet ∈ wA := wA_sub_10 _ (List.mem_of_getElem? (i := 29) (by decide +kernel))
theorem mwX10_271 : Cond.methodLink RX10 271 yX10_notMoved ∈ wA := wA_sub_10 _ (List.mem_of_getElem? (i := 90) (by decide +kernel))
theorem nwX1_24 : Cond.methodLinkNest RX1 24 yX2_init "FurrowTalk" ∈ NW := List.mem_of_getElem? (i := 0) rfl
theorem nwX8_32 : Cond.methodLinkNest RX8 32 yX3_init "FurrowTalk" ∈ NW := List.mem_of_getElem? (i := 1) rfl
theorem nwX9_28 : Cond.methodLinkNest RX9 28 yX2_init "FurrowTalk" ∈ NW := List.mem_of_getElem? (i := 2) rfl
theorem nwX9_35 : Cond.methodLinkNest RX9 35 yX0_init "FurrowTalk" ∈ NW := List.mem_of_getElem? (i := 3) rfl
theorem nwX9_54 : Cond.methodLinkNest RX9 54 yX7_init "FurrowTalk" ∈ NW := List.mem_of_getElem? (i := 4) rfl
theorem nwX7_11 : Cond.methodLinkNest RX7 11 yX3_init "FurrowTalk" ∈ NW := List.mem_of_getElem? (i := 5) rfl
theorem nwX9_61 : Cond.methodLinkNest RX9 61 yX6_init "FurrowTalk" ∈ NW := List.mem_of_getElem? (i := 6) rfl
theorem nwX9_76 : Cond.methodLinkNest RX9 76 yX5_init "FurrowTalk" ∈ NW := List.mem_of_getElem? (i := 7) rfl
theorem nwX3_39 : Cond.methodLinkNest RX3 39 yX9_asNumber "FurrowTalk" ∈ NW := List.mem_of_getElem? (i := 8) rfl
theorem nwX8_41 : Cond.methodLinkNest RX8 41 yX9_hold "FurrowTalk" ∈ NW := List.mem_of_getElem? (i := 9) rfl
theorem nwX2_24 : Cond.methodLinkNest RX2 24 yX9_isKind "FurrowTalk" ∈ NW := List.mem_of_getElem? (i := 10) rfl
theorem nwX2_28 : Cond.fieldLinkNest RX2 28 "FurrowTalk" "KIND_ABOVE" "[I" "FurrowTalk" ∈ NW := List.mem_of_getElem? (i := 11) rfl
theorem nwX1_87 : Cond.methodLinkNest RX1 87 yX9_lineAt "FurrowTalk" ∈ NW := List.mem_of_getElem? (i := 12) rfl
theorem cwX9_87 : Cond.constant RX9 87 (-1000000001) ∈ wA := wA_sub_3 _ (List.mem_of_getElem? (i := 8) (by decide +kernel))
theorem cwX9_99 : Cond.constant RX9 99 (-1000000004) ∈ wA := wA_sub_3 _ (List.mem_of_getElem? (i := 13) (by decide +kernel))
theorem cwX9_157 : Cond.constant RX9 157 (-1000000005) ∈ wA := wA_sub_4 _ (List.mem_of_getElem? (i := 5) (by decide +kernel))
theorem cwX9_216 : Cond.constant RX9 216 (-1000000003) ∈ wA := wA_sub_5 _ (List.mem_of_getElem? (i := 1) (by decide +kernel))
theorem cwX9_280 : Cond.constant RX9 280 (-1000000002) ∈ wA := wA_sub_6 _ (List.mem_of_getElem? (i := 51) (by decide +kernel))
theorem cwX9_295 : Cond.constant RX9 295 (-1000000006) ∈ wA := wA_sub_6 _ (List.mem_of_getElem? (i := 79) (by decide +kernel))
theorem cwX9_343 : Cond.constant RX9 343 (-1000000000) ∈ wA := wA_sub_3 _ (List.mem_of_getElem? (i := 12) (by decide +kernel))
theorem cwX1_94 : Cond.constant RX1 94 (1103515245) ∈ wA := wA_sub_5 _ (List.mem_of_getElem? (i := 40) (by decide +kernel))
theorem cwX4_20 : Cond.constant RX4 20 (1000000) ∈ wA := wA_sub_6 _ (List.mem_of_getElem? (i := 10) (by decide +kernel))
theorem cwX10_49 : Cond.constant RX10 49 (-1000000000) ∈ wA := wA_sub_8 _ (List.mem_of_getElem? (i := 13) (by decide +kernel))
theorem cwX10_94 : Cond.constant RX10 94 (-1000000001) ∈ wA := wA_sub_8 _ (List.mem_of_getElem? (i := 9) (by decide +kernel))
theorem cwX10_98 : Cond.constant RX10 98 (-1000000004) ∈ wA := wA_sub_8 _ (List.mem_of_getElem? (i := 14) (by decide +kernel))
theorem cwX10_114 : Cond.constant RX10 114 (-1000000005) ∈ wA := wA_sub_8 _ (List.mem_of_getElem? (i := 72) (by decide +kernel))
theorem cwX10_115 : Cond.constantLong RX10 115 (255) ∈ wA := wA_sub_8 _ (List.mem_of_getElem? (i := 93) (by decide +kernel))
theorem cwX10_180 : Cond.constant RX10 180 (-1000000003) ∈ wA := wA_sub_9 _ (List.mem_of_getElem? (i := 43) (by decide +kernel))
theorem cwX10_190 : Cond.constant RX10 190 (1103515245) ∈ wA := wA_sub_9 _ (List.mem_of_getElem? (i := 60) (by decide +kernel))
theorem cwX10_227 : Cond.constant RX10 227 (-1000000002) ∈ wA := wA_sub_10 _ (List.mem_of_getElem? (i := 32) (by decide +kernel))
theorem cwX10_267 : Cond.constant RX10 267 (-1000000006) ∈ wA := wA_sub_10 _ (List.mem_of_getElem? (i := 73) (by decide +kernel))
theorem cwJ6_265 : Cond.constant RJ6 265 (1431655765) ∈ wA := wA_sub_5 _ (List.mem_of_getElem? (i := 26) (by decide +kernel))
theorem cwJ6_266 : Cond.constant RJ6 266 (858993459) ∈ wA := wA_sub_5 _ (List.mem_of_getElem? (i := 27) (by decide +kernel))
theorem cwJ6_267 : Cond.constant RJ6 267 (252645135) ∈ wA := wA_sub_5 _ (List.mem_of_getElem? (i := 28) (by decide +kernel))
