theorem pt_0 {w : Cond} (h : w ∈ k2_sels lw_privs) : w ∈ lw_tbl := List.mem_append_left _ h
theorem pt_r {w : Cond} (h : w ∈ tables_1) : w ∈ lw_tbl := List.mem_append_right _ h
theorem pt_1 {w : Cond} (h : w ∈ tables_1_1) : w ∈ lw_tbl := pt_r (List.mem_append_left _ h)
theorem pt_2 {w : Cond} (h : w ∈ tables_1_2) : w ∈ lw_tbl := pt_r (List.mem_append_right _ (List.mem_append_left _ h))
theorem pt_3 {w : Cond} (h : w ∈ tables_1_3) : w ∈ lw_tbl := pt_r (List.mem_append_right _ (List.mem_append_right _ (List.mem_append_left _ h)))
theorem pt_4 {w : Cond} (h : w ∈ tables_1_4) : w ∈ lw_tbl := pt_r (List.mem_append_right _ (List.mem_append_right _ (List.mem_append_right _ (List.mem_append_left _ h))))
theorem pt_5 {w : Cond} (h : w ∈ tables_1_5) : w ∈ lw_tbl := pt_r (List.mem_append_right _ (List.mem_append_right _ (List.mem_append_right _ (List.mem_append_right _ (List.mem_append_left _ h)))))
theorem pt_6 {w : Cond} (h : w ∈ tables_1_6) : w ∈ lw_tbl := pt_r (List.mem_append_right _ (List.mem_append_right _ (List.mem_append_right _ (List.mem_append_right _ (List.mem_append_right _ (List.mem_append_left _ h))))))
theorem pt_7 {w : Cond} (h : w ∈ tables_1_7) : w ∈ lw_tbl := pt_r (List.mem_append_right _ (List.mem_append_right _ (List.mem_append_right _ (List.mem_append_right _ (List.mem_append_right _ (List.mem_append_right _ h))))))
theorem pw_wsK {C : String} {T : u_T} (N : Nat) (h : ∀ k, k < N → u_lay C T k ∈ pw_T) : ∀ w ∈ u_ws C T N, w ∈ pw_T := by
  intro w hw
  obtain ⟨k, hk, rfl⟩ := List.mem_map.mp hw
  exact h k (List.mem_range.mp hk)
theorem pw_lt0 {P : Nat → Prop} : ∀ k, k < 0 → P k := fun k h => absurd h (Nat.not_lt_zero k)
theorem pw_ltS {P : Nat → Prop} {n : Nat} (h : ∀ k, k < n → P k) (hn : P n) : ∀ k, k < n + 1 → P k := fun k hk => (Nat.lt_succ_iff_lt_or_eq.mp hk).elim (h k) (fun e => e ▸ hn)
theorem pw_wsR {C : String} {T : u_T} {N : Nat} (ps : List Nat) (h : u_ws C T N = ps.filterMap (fun i => lw_tbl[i]?)) (hg : (u_ws C T N).all goodWord = true) : ∀ w ∈ u_ws C T N, w ∈ pw_T := by
  intro w hw
  have h1 := List.all_eq_true.mp hg w hw
  rw [h] at hw
  obtain ⟨i, -, hi⟩ := List.mem_filterMap.mp hw
  exact pw_in (List.mem_of_getElem? hi) h1
theorem pw_inD {w : Cond} (h : (decide (w ∈ lw_tbl) && goodWord w) = true) : w ∈ pw_T := by
  simp only [Bool.and_eq_true, decide_eq_true_eq] at h
  exact pw_in h.1 h.2
theorem pw_inE {w : Cond} (h : (decide (w ∈ lw_tbl) && pw_nest w) = true) : w ∈ pw_N := by
  simp only [Bool.and_eq_true, decide_eq_true_eq] at h
  exact pw_inN h.1 h.2
theorem lay_X0_0 : u_lay RX0 TX0 0 ∈ pw_T := pw_in (pt_3 (List.mem_of_getElem? (i := 175) (by rfl))) (by rfl)
theorem lay_X0_1 : u_lay RX0 TX0 1 ∈ pw_T := pw_in (pt_3 (List.mem_of_getElem? (i := 177) (by rfl))) (by rfl)
theorem lay_X0_2 : u_lay RX0 TX0 2 ∈ pw_T := pw_in (pt_3 (List.mem_of_getElem? (i := 179) (by rfl))) (by rfl)
theorem lay_X0_3 : u_lay RX0 TX0 3 ∈ pw_T := pw_in (pt_3 (List.mem_of_getElem? (i := 181) (by rfl))) (by rfl)
theorem lay_X0_4 : u_lay RX0 TX0 4 ∈ pw_T := pw_in (pt_3 (List.mem_of_getElem? (i := 183) (by rfl))) (by rfl)
theorem lay_X0_5 : u_lay RX0 TX0 5 ∈ pw_T := pw_in (pt_3 (List.mem_of_getElem? (i := 185) (by rfl))) (by rfl)
theorem lay_X0_6 : u_lay RX0 TX0 6 ∈ pw_T := pw_in (pt_3 (List.mem_of_getElem? (i := 187) (by rfl))) (by rfl)
theorem cl_X0 : pw_CL 0 (RX0, TX0, 7) tyX0 := ⟨rfl, pw_wsK 7 (pw_ltS (pw_ltS (pw_ltS (pw_ltS (pw_ltS (pw_ltS (pw_ltS (pw_lt0) lay_X0_0) lay_X0_1) lay_X0_2) lay_X0_3) lay_X0_4) lay_X0_5) lay_X0_6), tyX0_ok, nmX0⟩
theorem in_X0 : Cond.instantiable RX0 7 ∈ pw_T := pw_in (pt_3 (List.mem_of_getElem? (i := 157) (by rfl))) (by rfl)
theorem ii_X0 : Cond.initialized RX0 ∈ pw_T := pw_in (pt_1 (List.mem_of_getElem? (i := 18) (by rfl))) (by rfl)
theorem lay_X1_0 : u_lay RX1 TX1 0 ∈ pw_T := pw_in (pt_2 (List.mem_of_getElem? (i := 114) (by rfl))) (by rfl)
theorem lay_X1_1 : u_lay RX1 TX1 1 ∈ pw_T := pw_in (pt_2 (List.mem_of_getElem? (i := 116) (by rfl))) (by rfl)
theorem lay_X1_2 : u_lay RX1 TX1 2 ∈ pw_T := pw_in (pt_2 (List.mem_of_getElem? (i := 118) (by rfl))) (by rfl)
theorem lay_X1_3 : u_lay RX1 TX1 3 ∈ pw_T := pw_in (pt_2 (List.mem_of_getElem? (i := 120) (by rfl))) (by rfl)
theorem lay_X1_4 : u_lay RX1 TX1 4 ∈ pw_T := pw_in (pt_2 (List.mem_of_getElem? (i := 122) (by rfl))) (by rfl)
theorem lay_X1_5 : u_lay RX1 TX1 5 ∈ pw_T := pw_in (pt_2 (List.mem_of_getElem? (i := 124) (by rfl))) (by rfl)
theorem cl_X1 : pw_CL 1 (RX1, TX1, 6) tyX1 := ⟨rfl, pw_wsK 6 (pw_ltS (pw_ltS (pw_ltS (pw_ltS (pw_ltS (pw_ltS (pw_lt0) lay_X1_0) lay_X1_1) lay_X1_2) lay_X1_3) lay_X1_4) lay_X1_5), tyX1_ok, nmX1⟩
theorem in_X1 : Cond.instantiable RX1 6 ∈ pw_T := pw_in (pt_2 (List.mem_of_getElem? (i := 82) (by rfl))) (by rfl)
theorem ii_X1 : Cond.initialized RX1 ∈ pw_T := pw_in (pt_1 (List.mem_of_getElem? (i := 14) (by rfl))) (by rfl)
theorem lay_X2_0 : u_lay RX2 TX2 0 ∈ pw_T := pw_in (pt_4 (List.mem_of_getElem? (i := 52) (by rfl))) (by rfl)
theorem lay_X2_1 : u_lay RX2 TX2 1 ∈ pw_T := pw_in (pt_4 (List.mem_of_getElem? (i := 54) (by rfl))) (by rfl)
theorem lay_X2_2 : u_lay RX2 TX2 2 ∈ pw_T := pw_in (pt_4 (List.mem_of_getElem? (i := 56) (by rfl))) (by rfl)
theorem lay_X2_3 : u_lay RX2 TX2 3 ∈ pw_T := pw_in (pt_4 (List.mem_of_getElem? (i := 58) (by rfl))) (by rfl)
theorem cl_X2 : pw_CL 2 (RX2, TX2, 4) tyX2 := ⟨rfl, pw_wsK 4 (pw_ltS (pw_ltS (pw_ltS (pw_ltS (pw_lt0) lay_X2_0) lay_X2_1) lay_X2_2) lay_X2_3), tyX2_ok, nmX2⟩
theorem in_X2 : Cond.instantiable RX2 4 ∈ pw_T := pw_in (pt_4 (List.mem_of_getElem? (i := 34) (by rfl))) (by rfl)
theorem ii_X2 : Cond.initialized RX2 ∈ pw_T := pw_in (pt_1 (List.mem_of_getElem? (i := 19) (by rfl))) (by rfl)
theorem lay_X3_0 : u_lay RX3 TX3 0 ∈ pw_T := pw_in (pt_2 (List.mem_of_getElem? (i := 56) (by rfl))) (by rfl)
theorem lay_X3_1 : u_lay RX3 TX3 1 ∈ pw_T := pw_in (pt_2 (List.mem_of_getElem? (i := 58) (by rfl))) (by rfl)
theorem lay_X3_2 : u_lay RX3 TX3 2 ∈ pw_T := pw_in (pt_2 (List.mem_of_getElem? (i := 60) (by rfl))) (by rfl)
theorem lay_X3_3 : u_lay RX3 TX3 3 ∈ pw_T := pw_in (pt_2 (List.mem_of_getElem? (i := 62) (by rfl))) (by rfl)
theorem lay_X3_4 : u_lay RX3 TX3 4 ∈ pw_T := pw_in (pt_2 (List.mem_of_getElem? (i := 64) (by rfl))) (by rfl)
theorem lay_X3_5 : u_lay RX3 TX3 5 ∈ pw_T := pw_in (pt_2 (List.mem_of_getElem? (i := 66) (by rfl))) (by rfl)
theorem lay_X3_6 : u_lay RX3 TX3 6 ∈ pw_T := pw_in (pt_2 (List.mem_of_getElem? (i := 68) (by rfl))) (by rfl)
theorem lay_X3_7 : u_lay RX3 TX3 7 ∈ pw_T := pw_in (pt_2 (List.mem_of_getElem? (i := 70) (by rfl))) (by rfl)
theorem lay_X3_8 : u_lay RX3 TX3 8 ∈ pw_T := pw_in (pt_2 (List.mem_of_getElem? (i := 72) (by rfl))) (by rfl)
theorem lay_X3_9 : u_lay RX3 TX3 9 ∈ pw_T := pw_in (pt_2 (List.mem_of_getElem? (i := 74) (by rfl))) (by rfl)
theorem lay_X3_10 : u_lay RX3 TX3 10 ∈ pw_T := pw_in (pt_2 (List.mem_of_getElem? (i := 76) (by rfl))) (by rfl)
theorem lay_X3_11 : u_lay RX3 TX3 11 ∈ pw_T := pw_in (pt_2 (List.mem_of_getElem? (i := 78) (by rfl))) (by rfl)
theorem cl_X3 : pw_CL 3 (RX3, TX3, 12) tyX3 := ⟨rfl, pw_wsK 12 (pw_ltS (pw_ltS (pw_ltS (pw_ltS (pw_ltS (pw_ltS (pw_ltS (pw_ltS (pw_ltS (pw_ltS (pw_ltS (pw_ltS (pw_lt0) lay_X3_0) lay_X3_1) lay_X3_2) lay_X3_3) lay_X3_4) lay_X3_5) lay_X3_6) lay_X3_7) lay_X3_8) lay_X3_9) lay_X3_10) lay_X3_11), tyX3_ok, nmX3⟩
theorem in_X3 : Cond.instantiable RX3 12 ∈ pw_T := pw_in (pt_2 (List.mem_of_getElem? (i := 33) (by rfl))) (by rfl)
theorem ii_X3 : Cond.initialized RX3 ∈ pw_T := pw_in (pt_1 (List.mem_of_getElem? (i := 13) (by rfl))) (by rfl)
theorem lay_X4_0 : u_lay RX4 TX4 0 ∈ pw_T := pw_in (pt_2 (List.mem_of_getElem? (i := 27) (by rfl))) (by rfl)
theorem lay_X4_1 : u_lay RX4 TX4 1 ∈ pw_T := pw_in (pt_2 (List.mem_of_getElem? (i := 29) (by rfl))) (by rfl)
theorem cl_X4 : pw_CL 4 (RX4, TX4, 2) tyX4 := ⟨rfl, pw_wsK 2 (pw_ltS (pw_ltS (pw_lt0) lay_X4_0) lay_X4_1), tyX4_ok, nmX4⟩
theorem in_X4 : Cond.instantiable RX4 2 ∈ pw_T := pw_in (pt_2 (List.mem_of_getElem? (i := 16) (by rfl))) (by rfl)
theorem ii_X4 : Cond.initialized RX4 ∈ pw_T := pw_in (pt_1 (List.mem_of_getElem? (i := 12) (by rfl))) (by rfl)
theorem lay_X5_0 : u_lay RX5 TX5 0 ∈ pw_T := pw_in (pt_1 (List.mem_of_getElem? (i := 202) (by rfl))) (by rfl)
theorem lay_X5_1 : u_lay RX5 TX5 1 ∈ pw_T := pw_in (pt_1 (List.mem_of_getElem? (i := 204) (by rfl))) (by rfl)
theorem lay_X5_2 : u_lay RX5 TX5 2 ∈ pw_T := pw_in (pt_1 (List.mem_of_getElem? (i := 206) (by rfl))) (by rfl)
theorem lay_X5_3 : u_lay RX5 TX5 3 ∈ pw_T := pw_in (pt_1 (List.mem_of_getElem? (i := 208) (by rfl))) (by rfl)
theorem lay_X5_4 : u_lay RX5 TX5 4 ∈ pw_T := pw_in (pt_1 (List.mem_of_getElem? (i := 210) (by rfl))) (by rfl)
theorem lay_X5_5 : u_lay RX5 TX5 5 ∈ pw_T := pw_in (pt_1 (List.mem_of_getElem? (i := 212) (by rfl))) (by rfl)
theorem lay_X5_6 : u_lay RX5 TX5 6 ∈ pw_T := pw_in (pt_1 (List.mem_of_getElem? (i := 214) (by rfl))) (by rfl)
theorem lay_X5_7 : u_lay RX5 TX5 7 ∈ pw_T := pw_in (pt_1 (List.mem_of_getElem? (i := 216) (by rfl))) (by rfl)
theorem lay_X5_8 : u_lay RX5 TX5 8 ∈ pw_T := pw_in (pt_1 (List.mem_of_getElem? (i := 218) (by rfl))) (by rfl)
theorem lay_X5_9 : u_lay RX5 TX5 9 ∈ pw_T := pw_in (pt_1 (List.mem_of_getElem? (i := 220) (by rfl))) (by rfl)
theorem lay_X5_10 : u_lay RX5 TX5 10 ∈ pw_T := pw_in (pt_1 (List.mem_of_getElem? (i := 222) (by rfl))) (by rfl)
theorem lay_X5_11 : u_lay RX5 TX5 11 ∈ pw_T := pw_in (pt_1 (List.mem_of_getElem? (i := 224) (by rfl))) (by rfl)
theorem lay_X5_12 : u_lay RX5 TX5 12 ∈ pw_T := pw_in (pt_1 (List.mem_of_getElem? (i := 226) (by rfl))) (by rfl)
theorem lay_X5_13 : u_lay RX5 TX5 13 ∈ pw_T := pw_in (pt_1 (List.mem_of_getElem? (i := 228) (by rfl))) (by rfl)
theorem cl_X5 : pw_CL 5 (RX5, TX5, 14) tyX5 := ⟨rfl, pw_wsK 14 (pw_ltS (pw_ltS (pw_ltS (pw_ltS (pw_ltS (pw_ltS (pw_ltS (pw_ltS (pw_ltS (pw_ltS (pw_ltS (pw_ltS (pw_ltS (pw_ltS (pw_lt0) lay_X5_0) lay_X5_1) lay_X5_2) lay_X5_3) lay_X5_4) lay_X5_5) lay_X5_6) lay_X5_7) lay_X5_8) lay_X5_9) lay_X5_10) lay_X5_11) lay_X5_12) lay_X5_13), tyX5_ok, nmX5⟩
theorem in_X5 : Cond.instantiable RX5 14 ∈ pw_T := pw_in (pt_1 (List.mem_of_getElem? (i := 180) (by rfl))) (by rfl)
theorem ii_X5 : Cond.initialized RX5 ∈ pw_T := pw_in (pt_1 (List.mem_of_getElem? (i := 10) (by rfl))) (by rfl)
theorem lay_X6_0 : u_lay RX6 TX6 0 ∈ pw_T := pw_in (pt_1 (List.mem_of_getElem? (i := 163) (by rfl))) (by rfl)
theorem lay_X6_1 : u_lay RX6 TX6 1 ∈ pw_T := pw_in (pt_1 (List.mem_of_getElem? (i := 165) (by rfl))) (by rfl)
theorem lay_X6_2 : u_lay RX6 TX6 2 ∈ pw_T := pw_in (pt_1 (List.mem_of_getElem? (i := 167) (by rfl))) (by rfl)
theorem lay_X6_3 : u_lay RX6 TX6 3 ∈ pw_T := pw_in (pt_1 (List.mem_of_getElem? (i := 169) (by rfl))) (by rfl)
theorem lay_X6_4 : u_lay RX6 TX6 4 ∈ pw_T := pw_in (pt_1 (List.mem_of_getElem? (i := 171) (by rfl))) (by rfl)
theorem lay_X6_5 : u_lay RX6 TX6 5 ∈ pw_T := pw_in (pt_1 (List.mem_of_getElem? (i := 173) (by rfl))) (by rfl)
theorem cl_X6 : pw_CL 6 (RX6, TX6, 6) tyX6 := ⟨rfl, pw_wsK 6 (pw_ltS (pw_ltS (pw_ltS (pw_ltS (pw_ltS (pw_ltS (pw_lt0) lay_X6_0) lay_X6_1) lay_X6_2) lay_X6_3) lay_X6_4) lay_X6_5), tyX6_ok, nmX6⟩
theorem in_X6 : Cond.instantiable RX6 6 ∈ pw_T := pw_in (pt_1 (List.mem_of_getElem? (i := 29) (by rfl))) (by rfl)
theorem ii_X6 : Cond.initialized RX6 ∈ pw_T := pw_in (pt_1 (List.mem_of_getElem? (i := 2) (by rfl))) (by rfl)
theorem lay_X7_0 : u_lay RX7 TX7 0 ∈ pw_T := pw_in (pt_2 (List.mem_of_getElem? (i := 4) (by rfl))) (by rfl)
theorem lay_X7_1 : u_lay RX7 TX7 1 ∈ pw_T := pw_in (pt_2 (List.mem_of_getElem? (i := 6) (by rfl))) (by rfl)
theorem lay_X7_2 : u_lay RX7 TX7 2 ∈ pw_T := pw_in (pt_2 (List.mem_of_getElem? (i := 8) (by rfl))) (by rfl)
theorem lay_X7_3 : u_lay RX7 TX7 3 ∈ pw_T := pw_in (pt_2 (List.mem_of_getElem? (i := 10) (by rfl))) (by rfl)
theorem lay_X7_4 : u_lay RX7 TX7 4 ∈ pw_T := pw_in (pt_2 (List.mem_of_getElem? (i := 12) (by rfl))) (by rfl)
theorem cl_X7 : pw_CL 7 (RX7, TX7, 5) tyX7 := ⟨rfl, pw_wsK 5 (pw_ltS (pw_ltS (pw_ltS (pw_ltS (pw_ltS (pw_lt0) lay_X7_0) lay_X7_1) lay_X7_2) lay_X7_3) lay_X7_4), tyX7_ok, nmX7⟩
theorem in_X7 : Cond.instantiable RX7 5 ∈ pw_T := pw_in (pt_1 (List.mem_of_getElem? (i := 233) (by rfl))) (by rfl)
theorem ii_X7 : Cond.initialized RX7 ∈ pw_T := pw_in (pt_1 (List.mem_of_getElem? (i := 11) (by rfl))) (by rfl)
theorem lay_X8_0 : u_lay RX8 TX8 0 ∈ pw_T := pw_in (pt_2 (List.mem_of_getElem? (i := 97) (by rfl))) (by rfl)
theorem lay_X8_1 : u_lay RX8 TX8 1 ∈ pw_T := pw_in (pt_2 (List.mem_of_getElem? (i := 99) (by rfl))) (by rfl)
theorem lay_X8_2 : u_lay RX8 TX8 2 ∈ pw_T := pw_in (pt_2 (List.mem_of_getElem? (i := 101) (by rfl))) (by rfl)
theorem lay_X8_3 : u_lay RX8 TX8 3 ∈ pw_T := pw_in (pt_2 (List.mem_of_getElem? (i := 103) (by rfl))) (by rfl)
theorem cl_X8 : pw_CL 8 (RX8, TX8, 4) tyX8 := ⟨rfl, pw_wsK 4 (pw_ltS (pw_ltS (pw_ltS (pw_ltS (pw_lt0) lay_X8_0) lay_X8_1) lay_X8_2) lay_X8_3), tyX8_ok, nmX8⟩
theorem in_X8 : Cond.instantiable RX8 4 ∈ pw_T := pw_in (pt_2 (List.mem_of_getElem? (i := 88) (by rfl))) (by rfl)
theorem ii_X8 : Cond.initialized RX8 ∈ pw_T := pw_in (pt_1 (List.mem_of_getElem? (i := 15) (by rfl))) (by rfl)
theorem lay_X9_0 : u_lay RX9 TX9 0 ∈ pw_T := pw_in (pt_2 (List.mem_of_getElem? (i := 134) (by rfl))) (by rfl)
theorem lay_X9_1 : u_lay RX9 TX9 1 ∈ pw_T := pw_in (pt_2 (List.mem_of_getElem? (i := 136) (by rfl))) (by rfl)
theorem lay_X9_2 : u_lay RX9 TX9 2 ∈ pw_T := pw_in (pt_2 (List.mem_of_getElem? (i := 138) (by rfl))) (by rfl)
theorem lay_X9_3 : u_lay RX9 TX9 3 ∈ pw_T := pw_in (pt_2 (List.mem_of_getElem? (i := 140) (by rfl))) (by rfl)
theorem lay_X9_4 : u_lay RX9 TX9 4 ∈ pw_T := pw_in (pt_2 (List.mem_of_getElem? (i := 142) (by rfl))) (by rfl)
theorem lay_X9_5 : u_lay RX9 TX9 5 ∈ pw_T := pw_in (pt_2 (List.mem_of_getElem? (i := 144) (by rfl))) (by rfl)
theorem lay_X9_6 : u_lay RX9 TX9 6 ∈ pw_T := pw_in (pt_2 (List.mem_of_getElem? (i := 146) (by rfl))) (by rfl)
theorem cl_X9 : pw_CL 9 (RX9, TX9, 7) tyX9 := ⟨rfl, pw_wsK 7 (pw_ltS (pw_ltS (pw_ltS (pw_ltS (pw_ltS (pw_ltS (pw_ltS (pw_lt0) lay_X9_0) lay_X9_1) lay_X9_2) lay_X9_3) lay_X9_4) lay_X9_5) lay_X9_6), tyX9_ok, nmX9⟩
theorem in_X9 : Cond.instantiable RX9 7 ∈ pw_T := pw_in (pt_1 (List.mem_of_getElem? (i := 21) (by rfl))) (by rfl)
theorem ii_X9 : Cond.initialized RX9 ∈ pw_T := pw_in (pt_1 (List.mem_of_getElem? (i := 1) (by rfl))) (by rfl)
theorem lay_X10_0 : u_lay RX10 TX10 0 ∈ pw_T := pw_in (pt_5 (List.mem_of_getElem? (i := 49) (by rfl))) (by rfl)
theorem lay_X10_1 : u_lay RX10 TX10 1 ∈ pw_T := pw_in (pt_5 (List.mem_of_getElem? (i := 51) (by rfl))) (by rfl)
theorem lay_X10_2 : u_lay RX10 TX10 2 ∈ pw_T := pw_in (pt_5 (List.mem_of_getElem? (i := 53) (by rfl))) (by rfl)
theorem lay_X10_3 : u_lay RX10 TX10 3 ∈ pw_T := pw_in (pt_5 (List.mem_of_getElem? (i := 55) (by rfl))) (by rfl)
theorem lay_X10_4 : u_lay RX10 TX10 4 ∈ pw_T := pw_in (pt_5 (List.mem_of_getElem? (i := 57) (by rfl))) (by rfl)
theorem lay_X10_5 : u_lay RX10 TX10 5 ∈ pw_T := pw_in (pt_5 (List.mem_of_getElem? (i := 59) (by rfl))) (by rfl)
theorem lay_X10_6 : u_lay RX10 TX10 6 ∈ pw_T := pw_in (pt_5 (List.mem_of_getElem? (i := 61) (by rfl))) (by rfl)
theorem lay_X10_7 : u_lay RX10 TX10 7 ∈ pw_T := pw_in (pt_5 (List.mem_of_getElem? (i := 63) (by rfl))) (by rfl)
theorem lay_X10_8 : u_lay RX10 TX10 8 ∈ pw_T := pw_in (pt_5 (List.mem_of_getElem? (i := 65) (by rfl))) (by rfl)
theorem lay_X10_9 : u_lay RX10 TX10 9 ∈ pw_T := pw_in (pt_5 (List.mem_of_getElem? (i := 67) (by rfl))) (by rfl)
theorem lay_X10_10 : u_lay RX10 TX10 10 ∈ pw_T := pw_in (pt_5 (List.mem_of_getElem? (i := 69) (by rfl))) (by rfl)
theorem lay_X10_11 : u_lay RX10 TX10 11 ∈ pw_T := pw_in (pt_5 (List.mem_of_getElem? (i := 71) (by rfl))) (by rfl)
theorem lay_X10_12 : u_lay RX10 TX10 12 ∈ pw_T := pw_in (pt_5 (List.mem_of_getElem? (i := 73) (by rfl))) (by rfl)
theorem lay_X10_13 : u_lay RX10 TX10 13 ∈ pw_T := pw_in (pt_5 (List.mem_of_getElem? (i := 75) (by rfl))) (by rfl)
theorem lay_X10_14 : u_lay RX10 TX10 14 ∈ pw_T := pw_in (pt_5 (List.mem_of_getElem? (i := 77) (by rfl))) (by rfl)
theorem lay_X10_15 : u_lay RX10 TX10 15 ∈ pw_T := pw_in (pt_5 (List.mem_of_getElem? (i := 79) (by rfl))) (by rfl)
theorem lay_X10_16 : u_lay RX10 TX10 16 ∈ pw_T := pw_in (pt_5 (List.mem_of_getElem? (i := 81) (by rfl))) (by rfl)
theorem lay_X10_17 : u_lay RX10 TX10 17 ∈ pw_T := pw_in (pt_5 (List.mem_of_getElem? (i := 83) (by rfl))) (by rfl)
theorem lay_X10_18 : u_lay RX10 TX10 18 ∈ pw_T := pw_in (pt_5 (List.mem_of_getElem? (i := 85) (by rfl))) (by rfl)
theorem lay_X10_19 : u_lay RX10 TX10 19 ∈ pw_T := pw_in (pt_5 (List.mem_of_getElem? (i := 87) (by rfl))) (by rfl)
theorem lay_X10_20 : u_lay RX10 TX10 20 ∈ pw_T := pw_in (pt_5 (List.mem_of_getElem? (i := 89) (by rfl))) (by rfl)
theorem lay_X10_21 : u_lay RX10 TX10 21 ∈ pw_T := pw_in (pt_5 (List.mem_of_getElem? (i := 91) (by rfl))) (by rfl)
theorem lay_X10_22 : u_lay RX10 TX10 22 ∈ pw_T := pw_in (pt_5 (List.mem_of_getElem? (i := 93) (by rfl))) (by rfl)
theorem lay_X10_23 : u_lay RX10 TX10 23 ∈ pw_T := pw_in (pt_5 (List.mem_of_getElem? (i := 95) (by rfl))) (by rfl)
theorem lay_X10_24 : u_lay RX10 TX10 24 ∈ pw_T := pw_in (pt_5 (List.mem_of_getElem? (i := 97) (by rfl))) (by rfl)
theorem lay_X10_25 : u_lay RX10 TX10 25 ∈ pw_T := pw_in (pt_5 (List.mem_of_getElem? (i := 99) (by rfl))) (by rfl)
theorem lay_X10_26 : u_lay RX10 TX10 26 ∈ pw_T := pw_in (pt_5 (List.mem_of_getElem? (i := 101) (by rfl))) (by rfl)
theorem lay_X10_27 : u_lay RX10 TX10 27 ∈ pw_T := pw_in (pt_5 (List.mem_of_getElem? (i := 103) (by rfl))) (by rfl)
theorem lay_X10_28 : u_lay RX10 TX10 28 ∈ pw_T := pw_in (pt_5 (List.mem_of_getElem? (i := 105) (by rfl))) (by rfl)
theorem lay_X10_29 : u_lay RX10 TX10 29 ∈ pw_T := pw_in (pt_5 (List.mem_of_getElem? (i := 107) (by rfl))) (by rfl)
theorem lay_X10_30 : u_lay RX10 TX10 30 ∈ pw_T := pw_in (pt_5 (List.mem_of_getElem? (i := 109) (by rfl))) (by rfl)
theorem lay_X10_31 : u_lay RX10 TX10 31 ∈ pw_T := pw_in (pt_5 (List.mem_of_getElem? (i := 111) (by rfl))) (by rfl)
theorem lay_X10_32 : u_lay RX10 TX10 32 ∈ pw_T := pw_in (pt_5 (List.mem_of_getElem? (i := 113) (by rfl))) (by rfl)
theorem lay_X10_33 : u_lay RX10 TX10 33 ∈ pw_T := pw_in (pt_5 (List.mem_of_getElem? (i := 115) (by rfl))) (by rfl)
theorem lay_X10_34 : u_lay RX10 TX10 34 ∈ pw_T := pw_in (pt_5 (List.mem_of_getElem? (i := 117) (by rfl))) (by rfl)
theorem lay_X10_35 : u_lay RX10 TX10 35 ∈ pw_T := pw_in (pt_5 (List.mem_of_getElem? (i := 119) (by rfl))) (by rfl)
theorem lay_X10_36 : u_lay RX10 TX10 36 ∈ pw_T := pw_in (pt_5 (List.mem_of_getElem? (i := 121) (by rfl))) (by rfl)
theorem lay_X10_37 : u_lay RX10 TX10 37 ∈ pw_T := pw_in (pt_5 (List.mem_of_getElem? (i := 123) (by rfl))) (by rfl)
theorem lay_X10_38 : u_lay RX10 TX10 38 ∈ pw_T := pw_in (pt_5 (List.mem_of_getElem? (i := 125) (by rfl))) (by rfl)
theorem lay_X10_39 : u_lay RX10 TX10 39 ∈ pw_T := pw_in (pt_5 (List.mem_of_getElem? (i := 127) (by rfl))) (by rfl)
theorem lay_X10_40 : u_lay RX10 TX10 40 ∈ pw_T := pw_in (pt_5 (List.mem_of_getElem? (i := 129) (by rfl))) (by rfl)
theorem lay_X10_41 : u_lay RX10 TX10 41 ∈ pw_T := pw_in (pt_5 (List.mem_of_getElem? (i := 131) (by rfl))) (by rfl)
theorem lay_X10_42 : u_lay RX10 TX10 42 ∈ pw_T := pw_in (pt_5 (List.mem_of_getElem? (i := 133) (by rfl))) (by rfl)
theorem lay_X10_43 : u_lay RX10 TX10 43 ∈ pw_T := pw_in (pt_5 (List.mem_of_getElem? (i := 135) (by rfl))) (by rfl)
theorem lay_X10_44 : u_lay RX10 TX10 44 ∈ pw_T := pw_in (pt_5 (List.mem_of_getElem? (i := 137) (by rfl))) (by rfl)
theorem lay_X10_45 : u_lay RX10 TX10 45 ∈ pw_T := pw_in (pt_5 (List.mem_of_getElem? (i := 139) (by rfl))) (by rfl)
theorem lay_X10_46 : u_lay RX10 TX10 46 ∈ pw_T := pw_in (pt_5 (List.mem_of_getElem? (i := 141) (by rfl))) (by rfl)
theorem lay_X10_47 : u_lay RX10 TX10 47 ∈ pw_T := pw_in (pt_5 (List.mem_of_getElem? (i := 143) (by rfl))) (by rfl)
theorem lay_X10_48 : u_lay RX10 TX10 48 ∈ pw_T := pw_in (pt_5 (List.mem_of_getElem? (i := 145) (by rfl))) (by rfl)
theorem lay_X10_49 : u_lay RX10 TX10 49 ∈ pw_T := pw_in (pt_5 (List.mem_of_getElem? (i := 147) (by rfl))) (by rfl)
theorem lay_X10_50 : u_lay RX10 TX10 50 ∈ pw_T := pw_in (pt_5 (List.mem_of_getElem? (i := 149) (by rfl))) (by rfl)
theorem lay_X10_51 : u_lay RX10 TX10 51 ∈ pw_T := pw_in (pt_5 (List.mem_of_getElem? (i := 151) (by rfl))) (by rfl)
theorem lay_X10_52 : u_lay RX10 TX10 52 ∈ pw_T := pw_in (pt_5 (List.mem_of_getElem? (i := 153) (by rfl))) (by rfl)
theorem lay_X10_53 : u_lay RX10 TX10 53 ∈ pw_T := pw_in (pt_5 (List.mem_of_getElem? (i := 155) (by rfl))) (by rfl)
theorem lay_X10_54 : u_lay RX10 TX10 54 ∈ pw_T := pw_in (pt_5 (List.mem_of_getElem? (i := 157) (by rfl))) (by rfl)
theorem lay_X10_55 : u_lay RX10 TX10 55 ∈ pw_T := pw_in (pt_5 (List.mem_of_getElem? (i := 159) (by rfl))) (by rfl)
theorem lay_X10_56 : u_lay RX10 TX10 56 ∈ pw_T := pw_in (pt_5 (List.mem_of_getElem? (i := 161) (by rfl))) (by rfl)
theorem lay_X10_57 : u_lay RX10 TX10 57 ∈ pw_T := pw_in (pt_5 (List.mem_of_getElem? (i := 163) (by rfl))) (by rfl)
theorem lay_X10_58 : u_lay RX10 TX10 58 ∈ pw_T := pw_in (pt_5 (List.mem_of_getElem? (i := 165) (by rfl))) (by rfl)
theorem lay_X10_59 : u_lay RX10 TX10 59 ∈ pw_T := pw_in (pt_5 (List.mem_of_getElem? (i := 167) (by rfl))) (by rfl)
theorem lay_X10_60 : u_lay RX10 TX10 60 ∈ pw_T := pw_in (pt_5 (List.mem_of_getElem? (i := 169) (by rfl))) (by rfl)
theorem lay_X10_61 : u_lay RX10 TX10 61 ∈ pw_T := pw_in (pt_5 (List.mem_of_getElem? (i := 171) (by rfl))) (by rfl)
theorem lay_X10_62 : u_lay RX10 TX10 62 ∈ pw_T := pw_in (pt_5 (List.mem_of_getElem? (i := 173) (by rfl))) (by rfl)
theorem lay_X10_63 : u_lay RX10 TX10 63 ∈ pw_T := pw_in (pt_5 (List.mem_of_getElem? (i := 175) (by rfl))) (by rfl)
theorem lay_X10_64 : u_lay RX10 TX10 64 ∈ pw_T := pw_in (pt_5 (List.mem_of_getElem? (i := 177) (by rfl))) (by rfl)
theorem lay_X10_65 : u_lay RX10 TX10 65 ∈ pw_T := pw_in (pt_5 (List.mem_of_getElem? (i := 179) (by rfl))) (by rfl)
theorem lay_X10_66 : u_lay RX10 TX10 66 ∈ pw_T := pw_in (pt_5 (List.mem_of_getElem? (i := 181) (by rfl))) (by rfl)
theorem lay_X10_67 : u_lay RX10 TX10 67 ∈ pw_T := pw_in (pt_5 (List.mem_of_getElem? (i := 183) (by rfl))) (by rfl)
theorem lay_X10_68 : u_lay RX10 TX10 68 ∈ pw_T := pw_in (pt_5 (List.mem_of_getElem? (i := 185) (by rfl))) (by rfl)
theorem lay_X10_69 : u_lay RX10 TX10 69 ∈ pw_T := pw_in (pt_5 (List.mem_of_getElem? (i := 187) (by rfl))) (by rfl)
theorem cl_X10 : pw_CL 10 (RX10, TX10, 70) tyX10 := ⟨rfl, pw_wsK 70 (pw_ltS (pw_ltS (pw_ltS (pw_ltS (pw_ltS (pw_ltS (pw_ltS (pw_ltS (pw_ltS (pw_ltS (pw_ltS (pw_ltS (pw_ltS (pw_ltS (pw_ltS (pw_ltS (pw_ltS (pw_ltS (pw_ltS (pw_ltS (pw_ltS (pw_ltS (pw_ltS (pw_ltS (pw_ltS (pw_ltS (pw_ltS (pw_ltS (pw_ltS (pw_ltS (pw_ltS (pw_ltS (pw_ltS (pw_ltS (pw_ltS (pw_ltS (pw_ltS (pw_ltS (pw_ltS (pw_ltS (pw_ltS (pw_ltS (pw_ltS (pw_ltS (pw_ltS (pw_ltS (pw_ltS (pw_ltS (pw_ltS (pw_ltS (pw_ltS (pw_ltS (pw_ltS (pw_ltS (pw_ltS (pw_ltS (pw_ltS (pw_ltS (pw_ltS (pw_ltS (pw_ltS (pw_ltS (pw_ltS (pw_ltS (pw_ltS (pw_ltS (pw_ltS (pw_ltS (pw_ltS (pw_ltS (pw_lt0) lay_X10_0) lay_X10_1) lay_X10_2) lay_X10_3) lay_X10_4) lay_X10_5) lay_X10_6) lay_X10_7) lay_X10_8) lay_X10_9) lay_X10_10) lay_X10_11) lay_X10_12) lay_X10_13) lay_X10_14) lay_X10_15) lay_X10_16) lay_X10_17) lay_X10_18) lay_X10_19) lay_X10_20) lay_X10_21) lay_X10_22) lay_X10_23) lay_X10_24) lay_X10_25) lay_X10_26) lay_X10_27) lay_X10_28) lay_X10_29) lay_X10_30) lay_X10_31) lay_X10_32) lay_X10_33) lay_X10_34) lay_X10_35) lay_X10_36) lay_X10_37) lay_X10_38) lay_X10_39) lay_X10_40) lay_X10_41) lay_X10_42) lay_X10_43) lay_X10_44) lay_X10_45) lay_X10_46) lay_X10_47) lay_X10_48) lay_X10_49) lay_X10_50) lay_X10_51) lay_X10_52) lay_X10_53) lay_X10_54) lay_X10_55) lay_X10_56) lay_X10_57) lay_X10_58) lay_X10_59) lay_X10_60) lay_X10_61) lay_X10_62) lay_X10_63) lay_X10_64) lay_X10_65) lay_X10_66) lay_X10_67) lay_X10_68) lay_X10_69), tyX10_ok, nmX10⟩
theorem in_X10 : Cond.instantiable RX10 70 ∈ pw_T := pw_in (pt_4 (List.mem_of_getElem? (i := 188) (by rfl))) (by rfl)
theorem ii_X10 : Cond.initialized RX10 ∈ pw_T := pw_in (pt_1 (List.mem_of_getElem? (i := 16) (by rfl))) (by rfl)
theorem ob_i : Cond.instanceMethod objectInit ∈ pw_T := pw_in (pt_1 (List.mem_of_getElem? (i := 26) (by rfl))) (by rfl)
theorem ob_c : Cond.code objectInit ⟨#[0xb1]⟩ 1 none ∈ pw_T := pw_in (pt_1 (List.mem_of_getElem? (i := 27) (by rfl))) (by rfl)
theorem ar_int : Cond.arrayClass .int ∈ pw_T := pw_in (pt_1 (List.mem_of_getElem? (i := 176) (by rfl))) (by rfl)
theorem ar_long : Cond.arrayClass .long ∈ pw_T := pw_in (pt_1 (List.mem_of_getElem? (i := 177) (by rfl))) (by rfl)
theorem ar_char : Cond.arrayClass .char ∈ pw_T := pw_in (pt_1 (List.mem_of_getElem? (i := 231) (by rfl))) (by rfl)
theorem ar_boolean : Cond.arrayClass .boolean ∈ pw_T := pw_in (pt_5 (List.mem_of_getElem? (i := 190) (by rfl))) (by rfl)
theorem fl_J0_38 : Cond.fieldLink RJ0 38 RJ0 "COMPACT_STRINGS" "Z" ∈ pw_T := pw_in (pt_1 (List.mem_of_getElem? (i := 46) (by rfl))) (by rfl)
theorem fl_J0_1053 : Cond.fieldLink RJ0 1053 RJ3 "SIOOBE_FORMATTER" "Ljava/util/function/BiFunction;" ∈ pw_T := pw_in (pt_1 (List.mem_of_getElem? (i := 63) (by rfl))) (by rfl)
theorem fl_J2_44 : Cond.fieldLink RJ2 44 RJ2 "$assertionsDisabled" "Z" ∈ pw_T := pw_in (pt_1 (List.mem_of_getElem? (i := 81) (by rfl))) (by rfl)
theorem fl_J2_59 : Cond.fieldLink RJ2 59 RJ2 "HI_BYTE_SHIFT" "I" ∈ pw_T := pw_in (pt_1 (List.mem_of_getElem? (i := 83) (by rfl))) (by rfl)
theorem fl_J2_63 : Cond.fieldLink RJ2 63 RJ2 "LO_BYTE_SHIFT" "I" ∈ pw_T := pw_in (pt_1 (List.mem_of_getElem? (i := 85) (by rfl))) (by rfl)
theorem fl_X6_11 : Cond.fieldLink RX6 11 RX6 "left" "[J" ∈ pw_T := pw_in (pt_1 (List.mem_of_getElem? (i := 156) (by rfl))) (by rfl)
theorem fl_X6_15 : Cond.fieldLink RX6 15 RX6 "right" "[I" ∈ pw_T := pw_in (pt_1 (List.mem_of_getElem? (i := 157) (by rfl))) (by rfl)
theorem fl_X6_19 : Cond.fieldLink RX6 19 RX6 "height" "[I" ∈ pw_T := pw_in (pt_1 (List.mem_of_getElem? (i := 158) (by rfl))) (by rfl)
theorem fl_X6_22 : Cond.fieldLink RX6 22 RX6 "next" "[I" ∈ pw_T := pw_in (pt_1 (List.mem_of_getElem? (i := 159) (by rfl))) (by rfl)
theorem fl_X6_25 : Cond.fieldLink RX6 25 RX6 "buckets" "[I" ∈ pw_T := pw_in (pt_1 (List.mem_of_getElem? (i := 160) (by rfl))) (by rfl)
theorem fl_X6_67 : Cond.fieldLink RX6 67 RX6 "count" "I" ∈ pw_T := pw_in (pt_1 (List.mem_of_getElem? (i := 162) (by rfl))) (by rfl)
theorem fl_X5_29 : Cond.fieldLink RX5 29 RX5 "store" "LLispMachine$Store;" ∈ pw_T := pw_in (pt_1 (List.mem_of_getElem? (i := 185) (by rfl))) (by rfl)
theorem fl_X5_9 : Cond.fieldLink RX5 9 RX5 "text" "[C" ∈ pw_T := pw_in (pt_1 (List.mem_of_getElem? (i := 186) (by rfl))) (by rfl)
theorem fl_X5_33 : Cond.fieldLink RX5 33 RX5 "length" "I" ∈ pw_T := pw_in (pt_1 (List.mem_of_getElem? (i := 187) (by rfl))) (by rfl)
theorem fl_X5_36 : Cond.fieldLink RX5 36 RX5 "fault" "I" ∈ pw_T := pw_in (pt_1 (List.mem_of_getElem? (i := 189) (by rfl))) (by rfl)
theorem fl_X5_15 : Cond.fieldLink RX5 15 RX5 "place" "I" ∈ pw_T := pw_in (pt_1 (List.mem_of_getElem? (i := 191) (by rfl))) (by rfl)
theorem fl_X5_19 : Cond.fieldLink RX5 19 RX5 "items" "[I" ∈ pw_T := pw_in (pt_1 (List.mem_of_getElem? (i := 193) (by rfl))) (by rfl)
theorem fl_X5_39 : Cond.fieldLink RX5 39 RX5 "itemCount" "I" ∈ pw_T := pw_in (pt_1 (List.mem_of_getElem? (i := 194) (by rfl))) (by rfl)
theorem fl_X5_23 : Cond.fieldLink RX5 23 RX5 "firstItem" "[I" ∈ pw_T := pw_in (pt_1 (List.mem_of_getElem? (i := 195) (by rfl))) (by rfl)
theorem fl_X5_26 : Cond.fieldLink RX5 26 RX5 "awaited" "[I" ∈ pw_T := pw_in (pt_1 (List.mem_of_getElem? (i := 196) (by rfl))) (by rfl)
theorem fl_X5_42 : Cond.fieldLink RX5 42 RX5 "open" "I" ∈ pw_T := pw_in (pt_1 (List.mem_of_getElem? (i := 197) (by rfl))) (by rfl)
theorem fl_X5_45 : Cond.fieldLink RX5 45 RX5 "words" "I" ∈ pw_T := pw_in (pt_1 (List.mem_of_getElem? (i := 198) (by rfl))) (by rfl)
theorem fl_X5_84 : Cond.fieldLink RX5 84 RX5 "digitsAlone" "Z" ∈ pw_T := pw_in (pt_1 (List.mem_of_getElem? (i := 199) (by rfl))) (by rfl)
theorem fl_X5_88 : Cond.fieldLink RX5 88 RX5 "amount" "J" ∈ pw_T := pw_in (pt_1 (List.mem_of_getElem? (i := 200) (by rfl))) (by rfl)
theorem fl_X5_92 : Cond.fieldLink RX5 92 RX5 "spelling" "J" ∈ pw_T := pw_in (pt_1 (List.mem_of_getElem? (i := 201) (by rfl))) (by rfl)
theorem fl_X7_19 : Cond.fieldLink RX7 19 RX7 "store" "LLispMachine$Store;" ∈ pw_T := pw_in (pt_1 (List.mem_of_getElem? (i := 238) (by rfl))) (by rfl)
theorem fl_X7_9 : Cond.fieldLink RX7 9 RX7 "out" "[C" ∈ pw_T := pw_in (pt_1 (List.mem_of_getElem? (i := 239) (by rfl))) (by rfl)
theorem fl_X7_23 : Cond.fieldLink RX7 23 RX7 "length" "I" ∈ pw_T := pw_in (pt_2 (List.mem_of_getElem? (i := 0) (by rfl))) (by rfl)
theorem fl_X7_15 : Cond.fieldLink RX7 15 RX7 "rests" "[I" ∈ pw_T := pw_in (pt_2 (List.mem_of_getElem? (i := 2) (by rfl))) (by rfl)
theorem fl_X7_27 : Cond.fieldLink RX7 27 RX7 "open" "I" ∈ pw_T := pw_in (pt_2 (List.mem_of_getElem? (i := 3) (by rfl))) (by rfl)
theorem fl_X4_11 : Cond.fieldLink RX4 11 RX4 "table" "[LLispMachine$Definition;" ∈ pw_T := pw_in (pt_2 (List.mem_of_getElem? (i := 23) (by rfl))) (by rfl)
theorem fl_X4_17 : Cond.fieldLink RX4 17 RX4 "count" "I" ∈ pw_T := pw_in (pt_2 (List.mem_of_getElem? (i := 24) (by rfl))) (by rfl)
theorem fl_X3_21 : Cond.fieldLink RX3 21 RX3 "store" "LLispMachine$Store;" ∈ pw_T := pw_in (pt_2 (List.mem_of_getElem? (i := 40) (by rfl))) (by rfl)
theorem fl_X3_25 : Cond.fieldLink RX3 25 RX3 "functions" "LLispMachine$Functions;" ∈ pw_T := pw_in (pt_2 (List.mem_of_getElem? (i := 41) (by rfl))) (by rfl)
theorem fl_X3_13 : Cond.fieldLink RX3 13 RX3 "calls" "[LLispMachine$Call;" ∈ pw_T := pw_in (pt_2 (List.mem_of_getElem? (i := 42) (by rfl))) (by rfl)
theorem fl_X3_35 : Cond.fieldLink RX3 35 RX3 "open" "I" ∈ pw_T := pw_in (pt_2 (List.mem_of_getElem? (i := 43) (by rfl))) (by rfl)
theorem fl_X3_17 : Cond.fieldLink RX3 17 RX3 "fuel" "I" ∈ pw_T := pw_in (pt_2 (List.mem_of_getElem? (i := 44) (by rfl))) (by rfl)
theorem fl_X3_29 : Cond.fieldLink RX3 29 RX3 "steps" "I" ∈ pw_T := pw_in (pt_2 (List.mem_of_getElem? (i := 46) (by rfl))) (by rfl)
theorem fl_X3_32 : Cond.fieldLink RX3 32 RX3 "fault" "I" ∈ pw_T := pw_in (pt_2 (List.mem_of_getElem? (i := 48) (by rfl))) (by rfl)
theorem fl_X3_38 : Cond.fieldLink RX3 38 RX3 "bindings" "I" ∈ pw_T := pw_in (pt_2 (List.mem_of_getElem? (i := 51) (by rfl))) (by rfl)
theorem fl_X3_63 : Cond.fieldLink RX3 63 RX3 "move" "I" ∈ pw_T := pw_in (pt_2 (List.mem_of_getElem? (i := 52) (by rfl))) (by rfl)
theorem fl_X3_107 : Cond.fieldLink RX3 107 RX3 "term" "I" ∈ pw_T := pw_in (pt_2 (List.mem_of_getElem? (i := 53) (by rfl))) (by rfl)
theorem fl_X3_45 : Cond.fieldLink RX3 45 RX3 "scope" "LLispMachine$Call;" ∈ pw_T := pw_in (pt_2 (List.mem_of_getElem? (i := 54) (by rfl))) (by rfl)
theorem fl_X3_69 : Cond.fieldLink RX3 69 RX3 "value" "I" ∈ pw_T := pw_in (pt_2 (List.mem_of_getElem? (i := 55) (by rfl))) (by rfl)
theorem fl_X8_15 : Cond.fieldLink RX8 15 RX8 "store" "LLispMachine$Store;" ∈ pw_T := pw_in (pt_2 (List.mem_of_getElem? (i := 93) (by rfl))) (by rfl)
theorem fl_X8_19 : Cond.fieldLink RX8 19 RX8 "functions" "LLispMachine$Functions;" ∈ pw_T := pw_in (pt_2 (List.mem_of_getElem? (i := 94) (by rfl))) (by rfl)
theorem fl_X8_9 : Cond.fieldLink RX8 9 RX8 "parts" "[I" ∈ pw_T := pw_in (pt_2 (List.mem_of_getElem? (i := 95) (by rfl))) (by rfl)
theorem fl_X8_27 : Cond.fieldLink RX8 27 RX8 "count" "I" ∈ pw_T := pw_in (pt_2 (List.mem_of_getElem? (i := 96) (by rfl))) (by rfl)
theorem fl_X1_9 : Cond.fieldLink RX1 9 RX1 "store" "LLispMachine$Store;" ∈ pw_T := pw_in (pt_2 (List.mem_of_getElem? (i := 106) (by rfl))) (by rfl)
theorem fl_X1_15 : Cond.fieldLink RX1 15 RX1 "functions" "LLispMachine$Functions;" ∈ pw_T := pw_in (pt_2 (List.mem_of_getElem? (i := 107) (by rfl))) (by rfl)
theorem fl_X1_19 : Cond.fieldLink RX1 19 RX1 "evaluator" "LLispMachine$Evaluator;" ∈ pw_T := pw_in (pt_2 (List.mem_of_getElem? (i := 108) (by rfl))) (by rfl)
theorem fl_X1_28 : Cond.fieldLink RX1 28 RX1 "terms" "LLispMachine$Terms;" ∈ pw_T := pw_in (pt_2 (List.mem_of_getElem? (i := 109) (by rfl))) (by rfl)
theorem fl_X1_57 : Cond.fieldLink RX1 57 RX1 "result" "I" ∈ pw_T := pw_in (pt_2 (List.mem_of_getElem? (i := 110) (by rfl))) (by rfl)
theorem fl_X1_38 : Cond.fieldLink RX1 38 RX1 "kept" "I" ∈ pw_T := pw_in (pt_2 (List.mem_of_getElem? (i := 112) (by rfl))) (by rfl)
theorem fl_X9_9 : Cond.fieldLink RX9 9 RX9 "waiting" "[I" ∈ pw_T := pw_in (pt_2 (List.mem_of_getElem? (i := 127) (by rfl))) (by rfl)
theorem fl_X9_16 : Cond.fieldLink RX9 16 RX9 "store" "LLispMachine$Store;" ∈ pw_T := pw_in (pt_2 (List.mem_of_getElem? (i := 128) (by rfl))) (by rfl)
theorem fl_X9_25 : Cond.fieldLink RX9 25 RX9 "reader" "LLispMachine$Reader;" ∈ pw_T := pw_in (pt_2 (List.mem_of_getElem? (i := 129) (by rfl))) (by rfl)
theorem fl_X9_32 : Cond.fieldLink RX9 32 RX9 "teller" "LLispMachine$Teller;" ∈ pw_T := pw_in (pt_2 (List.mem_of_getElem? (i := 130) (by rfl))) (by rfl)
theorem fl_X9_39 : Cond.fieldLink RX9 39 RX9 "functions" "LLispMachine$Functions;" ∈ pw_T := pw_in (pt_2 (List.mem_of_getElem? (i := 131) (by rfl))) (by rfl)
theorem fl_X9_48 : Cond.fieldLink RX9 48 RX9 "evaluator" "LLispMachine$Evaluator;" ∈ pw_T := pw_in (pt_2 (List.mem_of_getElem? (i := 132) (by rfl))) (by rfl)
theorem fl_X9_57 : Cond.fieldLink RX9 57 RX9 "commands" "LLispMachine$Commands;" ∈ pw_T := pw_in (pt_2 (List.mem_of_getElem? (i := 133) (by rfl))) (by rfl)
theorem fl_X0_9 : Cond.fieldLink RX0 9 RX0 "values" "[I" ∈ pw_T := pw_in (pt_3 (List.mem_of_getElem? (i := 162) (by rfl))) (by rfl)
theorem fl_X0_30 : Cond.fieldLink RX0 30 RX0 "valueCount" "I" ∈ pw_T := pw_in (pt_3 (List.mem_of_getElem? (i := 164) (by rfl))) (by rfl)
theorem fl_X0_15 : Cond.fieldLink RX0 15 RX0 "name" "I" ∈ pw_T := pw_in (pt_3 (List.mem_of_getElem? (i := 165) (by rfl))) (by rfl)
theorem fl_X0_19 : Cond.fieldLink RX0 19 RX0 "definition" "LLispMachine$Definition;" ∈ pw_T := pw_in (pt_3 (List.mem_of_getElem? (i := 167) (by rfl))) (by rfl)
theorem fl_X0_23 : Cond.fieldLink RX0 23 RX0 "termsLeft" "I" ∈ pw_T := pw_in (pt_3 (List.mem_of_getElem? (i := 169) (by rfl))) (by rfl)
theorem fl_X0_26 : Cond.fieldLink RX0 26 RX0 "scope" "LLispMachine$Call;" ∈ pw_T := pw_in (pt_3 (List.mem_of_getElem? (i := 171) (by rfl))) (by rfl)
theorem fl_X0_33 : Cond.fieldLink RX0 33 RX0 "entered" "Z" ∈ pw_T := pw_in (pt_3 (List.mem_of_getElem? (i := 173) (by rfl))) (by rfl)
theorem fl_X2_7 : Cond.fieldLink RX2 7 RX2 "name" "I" ∈ pw_T := pw_in (pt_4 (List.mem_of_getElem? (i := 39) (by rfl))) (by rfl)
theorem fl_X2_13 : Cond.fieldLink RX2 13 RX2 "takes" "I" ∈ pw_T := pw_in (pt_4 (List.mem_of_getElem? (i := 43) (by rfl))) (by rfl)
theorem fl_X2_16 : Cond.fieldLink RX2 16 RX2 "parameters" "I" ∈ pw_T := pw_in (pt_4 (List.mem_of_getElem? (i := 46) (by rfl))) (by rfl)
theorem fl_X2_19 : Cond.fieldLink RX2 19 RX2 "body" "I" ∈ pw_T := pw_in (pt_4 (List.mem_of_getElem? (i := 49) (by rfl))) (by rfl)
theorem fl_X10_8 : Cond.fieldLink RX10 8 RX10 "left" "[I" ∈ pw_T := pw_in (pt_4 (List.mem_of_getElem? (i := 219) (by rfl))) (by rfl)
theorem fl_X10_14 : Cond.fieldLink RX10 14 RX10 "right" "[I" ∈ pw_T := pw_in (pt_4 (List.mem_of_getElem? (i := 220) (by rfl))) (by rfl)
theorem fl_X10_17 : Cond.fieldLink RX10 17 RX10 "next" "[I" ∈ pw_T := pw_in (pt_4 (List.mem_of_getElem? (i := 221) (by rfl))) (by rfl)
theorem fl_X10_20 : Cond.fieldLink RX10 20 RX10 "sizes" "[I" ∈ pw_T := pw_in (pt_4 (List.mem_of_getElem? (i := 222) (by rfl))) (by rfl)
theorem fl_X10_23 : Cond.fieldLink RX10 23 RX10 "heights" "[I" ∈ pw_T := pw_in (pt_4 (List.mem_of_getElem? (i := 223) (by rfl))) (by rfl)
theorem fl_X10_26 : Cond.fieldLink RX10 26 RX10 "number" "[J" ∈ pw_T := pw_in (pt_4 (List.mem_of_getElem? (i := 224) (by rfl))) (by rfl)
theorem fl_X10_30 : Cond.fieldLink RX10 30 RX10 "heads" "[I" ∈ pw_T := pw_in (pt_4 (List.mem_of_getElem? (i := 225) (by rfl))) (by rfl)
theorem fl_X10_165 : Cond.fieldLink RX10 165 RX10 "objects" "I" ∈ pw_T := pw_in (pt_4 (List.mem_of_getElem? (i := 226) (by rfl))) (by rfl)
theorem fl_X10_34 : Cond.fieldLink RX10 34 RX10 "names" "[I" ∈ pw_T := pw_in (pt_4 (List.mem_of_getElem? (i := 227) (by rfl))) (by rfl)
theorem fl_X10_37 : Cond.fieldLink RX10 37 RX10 "lengths" "[I" ∈ pw_T := pw_in (pt_4 (List.mem_of_getElem? (i := 228) (by rfl))) (by rfl)
theorem fl_X10_176 : Cond.fieldLink RX10 176 RX10 "symbols" "I" ∈ pw_T := pw_in (pt_4 (List.mem_of_getElem? (i := 229) (by rfl))) (by rfl)
theorem fl_X10_40 : Cond.fieldLink RX10 40 RX10 "waiting" "[I" ∈ pw_T := pw_in (pt_4 (List.mem_of_getElem? (i := 230) (by rfl))) (by rfl)
theorem fl_X10_43 : Cond.fieldLink RX10 43 RX10 "text" "[I" ∈ pw_T := pw_in (pt_4 (List.mem_of_getElem? (i := 231) (by rfl))) (by rfl)
theorem fl_X10_204 : Cond.fieldLink RX10 204 RX10 "textSize" "I" ∈ pw_T := pw_in (pt_4 (List.mem_of_getElem? (i := 232) (by rfl))) (by rfl)
theorem fl_X10_46 : Cond.fieldLink RX10 46 RX10 "out" "[I" ∈ pw_T := pw_in (pt_4 (List.mem_of_getElem? (i := 233) (by rfl))) (by rfl)
theorem fl_X10_265 : Cond.fieldLink RX10 265 RX10 "outSize" "I" ∈ pw_T := pw_in (pt_4 (List.mem_of_getElem? (i := 234) (by rfl))) (by rfl)
theorem fl_X10_49 : Cond.fieldLink RX10 49 RX10 "word" "[I" ∈ pw_T := pw_in (pt_4 (List.mem_of_getElem? (i := 235) (by rfl))) (by rfl)
theorem fl_X10_145 : Cond.fieldLink RX10 145 RX10 "wordSize" "I" ∈ pw_T := pw_in (pt_4 (List.mem_of_getElem? (i := 236) (by rfl))) (by rfl)
theorem fl_X10_52 : Cond.fieldLink RX10 52 RX10 "tellWhat" "[I" ∈ pw_T := pw_in (pt_4 (List.mem_of_getElem? (i := 237) (by rfl))) (by rfl)
theorem fl_X10_274 : Cond.fieldLink RX10 274 RX10 "telling" "I" ∈ pw_T := pw_in (pt_4 (List.mem_of_getElem? (i := 238) (by rfl))) (by rfl)
theorem fl_X10_201 : Cond.fieldLink RX10 201 RX10 "at" "I" ∈ pw_T := pw_in (pt_4 (List.mem_of_getElem? (i := 239) (by rfl))) (by rfl)
theorem fl_X10_207 : Cond.fieldLink RX10 207 RX10 "readFault" "I" ∈ pw_T := pw_in (pt_5 (List.mem_of_getElem? (i := 0) (by rfl))) (by rfl)
theorem fl_X10_55 : Cond.fieldLink RX10 55 RX10 "readPlace" "I" ∈ pw_T := pw_in (pt_5 (List.mem_of_getElem? (i := 1) (by rfl))) (by rfl)
theorem fl_X10_59 : Cond.fieldLink RX10 59 RX10 "openSort" "[I" ∈ pw_T := pw_in (pt_5 (List.mem_of_getElem? (i := 2) (by rfl))) (by rfl)
theorem fl_X10_62 : Cond.fieldLink RX10 62 RX10 "openFrom" "[I" ∈ pw_T := pw_in (pt_5 (List.mem_of_getElem? (i := 3) (by rfl))) (by rfl)
theorem fl_X10_65 : Cond.fieldLink RX10 65 RX10 "openState" "[I" ∈ pw_T := pw_in (pt_5 (List.mem_of_getElem? (i := 4) (by rfl))) (by rfl)
theorem fl_X10_68 : Cond.fieldLink RX10 68 RX10 "openLast" "[I" ∈ pw_T := pw_in (pt_5 (List.mem_of_getElem? (i := 5) (by rfl))) (by rfl)
theorem fl_X10_210 : Cond.fieldLink RX10 210 RX10 "open" "I" ∈ pw_T := pw_in (pt_5 (List.mem_of_getElem? (i := 6) (by rfl))) (by rfl)
theorem fl_X10_71 : Cond.fieldLink RX10 71 RX10 "items" "[I" ∈ pw_T := pw_in (pt_5 (List.mem_of_getElem? (i := 7) (by rfl))) (by rfl)
theorem fl_X10_217 : Cond.fieldLink RX10 217 RX10 "itemSize" "I" ∈ pw_T := pw_in (pt_5 (List.mem_of_getElem? (i := 8) (by rfl))) (by rfl)
theorem fl_X10_220 : Cond.fieldLink RX10 220 RX10 "whole" "I" ∈ pw_T := pw_in (pt_5 (List.mem_of_getElem? (i := 9) (by rfl))) (by rfl)
theorem fl_X10_213 : Cond.fieldLink RX10 213 RX10 "done" "Z" ∈ pw_T := pw_in (pt_5 (List.mem_of_getElem? (i := 10) (by rfl))) (by rfl)
theorem fl_X10_295 : Cond.fieldLink RX10 295 RX10 "defs" "I" ∈ pw_T := pw_in (pt_5 (List.mem_of_getElem? (i := 11) (by rfl))) (by rfl)
theorem fl_X10_74 : Cond.fieldLink RX10 74 RX10 "defName" "[I" ∈ pw_T := pw_in (pt_5 (List.mem_of_getElem? (i := 12) (by rfl))) (by rfl)
theorem fl_X10_77 : Cond.fieldLink RX10 77 RX10 "defMany" "[I" ∈ pw_T := pw_in (pt_5 (List.mem_of_getElem? (i := 13) (by rfl))) (by rfl)
theorem fl_X10_80 : Cond.fieldLink RX10 80 RX10 "defVariable" "[I" ∈ pw_T := pw_in (pt_5 (List.mem_of_getElem? (i := 14) (by rfl))) (by rfl)
theorem fl_X10_83 : Cond.fieldLink RX10 83 RX10 "defBody" "[I" ∈ pw_T := pw_in (pt_5 (List.mem_of_getElem? (i := 15) (by rfl))) (by rfl)
theorem fl_X10_86 : Cond.fieldLink RX10 86 RX10 "comingName" "I" ∈ pw_T := pw_in (pt_5 (List.mem_of_getElem? (i := 16) (by rfl))) (by rfl)
theorem fl_X10_298 : Cond.fieldLink RX10 298 RX10 "comingMany" "I" ∈ pw_T := pw_in (pt_5 (List.mem_of_getElem? (i := 17) (by rfl))) (by rfl)
theorem fl_X10_89 : Cond.fieldLink RX10 89 RX10 "fuel" "I" ∈ pw_T := pw_in (pt_5 (List.mem_of_getElem? (i := 18) (by rfl))) (by rfl)
theorem fl_X10_380 : Cond.fieldLink RX10 380 RX10 "steps" "I" ∈ pw_T := pw_in (pt_5 (List.mem_of_getElem? (i := 19) (by rfl))) (by rfl)
theorem fl_X10_301 : Cond.fieldLink RX10 301 RX10 "work" "I" ∈ pw_T := pw_in (pt_5 (List.mem_of_getElem? (i := 20) (by rfl))) (by rfl)
theorem fl_X10_92 : Cond.fieldLink RX10 92 RX10 "callOf" "[I" ∈ pw_T := pw_in (pt_5 (List.mem_of_getElem? (i := 21) (by rfl))) (by rfl)
theorem fl_X10_95 : Cond.fieldLink RX10 95 RX10 "restOf" "[I" ∈ pw_T := pw_in (pt_5 (List.mem_of_getElem? (i := 22) (by rfl))) (by rfl)
theorem fl_X10_98 : Cond.fieldLink RX10 98 RX10 "fromOf" "[I" ∈ pw_T := pw_in (pt_5 (List.mem_of_getElem? (i := 23) (by rfl))) (by rfl)
theorem fl_X10_313 : Cond.fieldLink RX10 313 RX10 "calls" "I" ∈ pw_T := pw_in (pt_5 (List.mem_of_getElem? (i := 24) (by rfl))) (by rfl)
theorem fl_X10_101 : Cond.fieldLink RX10 101 RX10 "built" "[I" ∈ pw_T := pw_in (pt_5 (List.mem_of_getElem? (i := 25) (by rfl))) (by rfl)
theorem fl_X10_307 : Cond.fieldLink RX10 307 RX10 "builtSize" "I" ∈ pw_T := pw_in (pt_5 (List.mem_of_getElem? (i := 26) (by rfl))) (by rfl)
theorem fl_X10_104 : Cond.fieldLink RX10 104 RX10 "walk" "[I" ∈ pw_T := pw_in (pt_5 (List.mem_of_getElem? (i := 27) (by rfl))) (by rfl)
theorem fl_X10_340 : Cond.fieldLink RX10 340 RX10 "walking" "I" ∈ pw_T := pw_in (pt_5 (List.mem_of_getElem? (i := 28) (by rfl))) (by rfl)
theorem fl_X10_107 : Cond.fieldLink RX10 107 RX10 "its" "[I" ∈ pw_T := pw_in (pt_5 (List.mem_of_getElem? (i := 29) (by rfl))) (by rfl)
theorem fl_X10_353 : Cond.fieldLink RX10 353 RX10 "itsMany" "I" ∈ pw_T := pw_in (pt_5 (List.mem_of_getElem? (i := 30) (by rfl))) (by rfl)
theorem fl_X10_110 : Cond.fieldLink RX10 110 RX10 "topVariable" "[I" ∈ pw_T := pw_in (pt_5 (List.mem_of_getElem? (i := 31) (by rfl))) (by rfl)
theorem fl_X10_113 : Cond.fieldLink RX10 113 RX10 "topValue" "[I" ∈ pw_T := pw_in (pt_5 (List.mem_of_getElem? (i := 32) (by rfl))) (by rfl)
theorem fl_X10_439 : Cond.fieldLink RX10 439 RX10 "tops" "I" ∈ pw_T := pw_in (pt_5 (List.mem_of_getElem? (i := 33) (by rfl))) (by rfl)
theorem fl_X10_116 : Cond.fieldLink RX10 116 RX10 "evalTerm" "[I" ∈ pw_T := pw_in (pt_5 (List.mem_of_getElem? (i := 34) (by rfl))) (by rfl)
theorem fl_X10_119 : Cond.fieldLink RX10 119 RX10 "evalRest" "[I" ∈ pw_T := pw_in (pt_5 (List.mem_of_getElem? (i := 35) (by rfl))) (by rfl)
theorem fl_X10_122 : Cond.fieldLink RX10 122 RX10 "evalFrom" "[I" ∈ pw_T := pw_in (pt_5 (List.mem_of_getElem? (i := 36) (by rfl))) (by rfl)
theorem fl_X10_125 : Cond.fieldLink RX10 125 RX10 "evalDef" "[I" ∈ pw_T := pw_in (pt_5 (List.mem_of_getElem? (i := 37) (by rfl))) (by rfl)
theorem fl_X10_128 : Cond.fieldLink RX10 128 RX10 "evalBase" "[I" ∈ pw_T := pw_in (pt_5 (List.mem_of_getElem? (i := 38) (by rfl))) (by rfl)
theorem fl_X10_131 : Cond.fieldLink RX10 131 RX10 "evalEnds" "[Z" ∈ pw_T := pw_in (pt_5 (List.mem_of_getElem? (i := 39) (by rfl))) (by rfl)
theorem fl_X10_371 : Cond.fieldLink RX10 371 RX10 "evals" "I" ∈ pw_T := pw_in (pt_5 (List.mem_of_getElem? (i := 40) (by rfl))) (by rfl)
theorem fl_X10_135 : Cond.fieldLink RX10 135 RX10 "value" "[I" ∈ pw_T := pw_in (pt_5 (List.mem_of_getElem? (i := 41) (by rfl))) (by rfl)
theorem fl_X10_383 : Cond.fieldLink RX10 383 RX10 "values" "I" ∈ pw_T := pw_in (pt_5 (List.mem_of_getElem? (i := 42) (by rfl))) (by rfl)
theorem fl_X10_377 : Cond.fieldLink RX10 377 RX10 "evalLimit" "I" ∈ pw_T := pw_in (pt_5 (List.mem_of_getElem? (i := 43) (by rfl))) (by rfl)
theorem fl_X10_374 : Cond.fieldLink RX10 374 RX10 "evalWhy" "I" ∈ pw_T := pw_in (pt_5 (List.mem_of_getElem? (i := 44) (by rfl))) (by rfl)
theorem fl_X10_359 : Cond.fieldLink RX10 359 RX10 "evalDone" "Z" ∈ pw_T := pw_in (pt_5 (List.mem_of_getElem? (i := 45) (by rfl))) (by rfl)
theorem fl_X10_368 : Cond.fieldLink RX10 368 RX10 "evalValue" "I" ∈ pw_T := pw_in (pt_5 (List.mem_of_getElem? (i := 46) (by rfl))) (by rfl)
theorem fl_X10_138 : Cond.fieldLink RX10 138 RX10 "mapped" "[I" ∈ pw_T := pw_in (pt_5 (List.mem_of_getElem? (i := 47) (by rfl))) (by rfl)
theorem fl_X10_451 : Cond.fieldLink RX10 451 RX10 "took" "Z" ∈ pw_T := pw_in (pt_5 (List.mem_of_getElem? (i := 48) (by rfl))) (by rfl)
theorem fl_J0_9 : Cond.fieldLink RJ0 9 RJ0 "value" "[B" ∈ pw_T := pw_in (pt_7 (List.mem_of_getElem? (i := 38) (by rfl))) (by rfl)
theorem fl_J0_15 : Cond.fieldLink RJ0 15 RJ0 "coder" "B" ∈ pw_T := pw_in (pt_7 (List.mem_of_getElem? (i := 39) (by rfl))) (by rfl)
theorem fn_X1_32 : Cond.fieldLinkNest RX1 32 RX6 "count" "I" RX9 ∈ pw_N := pw_inN (pt_1 (List.mem_of_getElem? (i := 161) (by rfl))) (by rfl)
theorem fn_X9_61 : Cond.fieldLinkNest RX9 61 RX5 "length" "I" RX9 ∈ pw_N := pw_inN (pt_1 (List.mem_of_getElem? (i := 188) (by rfl))) (by rfl)
theorem fn_X9_111 : Cond.fieldLinkNest RX9 111 RX5 "fault" "I" RX9 ∈ pw_N := pw_inN (pt_1 (List.mem_of_getElem? (i := 190) (by rfl))) (by rfl)
theorem fn_X9_114 : Cond.fieldLinkNest RX9 114 RX5 "place" "I" RX9 ∈ pw_N := pw_inN (pt_1 (List.mem_of_getElem? (i := 192) (by rfl))) (by rfl)
theorem fn_X9_124 : Cond.fieldLinkNest RX9 124 RX7 "length" "I" RX9 ∈ pw_N := pw_inN (pt_2 (List.mem_of_getElem? (i := 1) (by rfl))) (by rfl)
theorem fn_X9_121 : Cond.fieldLinkNest RX9 121 RX4 "count" "I" RX9 ∈ pw_N := pw_inN (pt_2 (List.mem_of_getElem? (i := 25) (by rfl))) (by rfl)
theorem fn_X1_164 : Cond.fieldLinkNest RX1 164 RX4 "count" "I" RX9 ∈ pw_N := pw_inN (pt_2 (List.mem_of_getElem? (i := 26) (by rfl))) (by rfl)
theorem fn_X9_75 : Cond.fieldLinkNest RX9 75 RX3 "fuel" "I" RX9 ∈ pw_N := pw_inN (pt_2 (List.mem_of_getElem? (i := 45) (by rfl))) (by rfl)
theorem fn_X9_118 : Cond.fieldLinkNest RX9 118 RX3 "steps" "I" RX9 ∈ pw_N := pw_inN (pt_2 (List.mem_of_getElem? (i := 47) (by rfl))) (by rfl)
theorem fn_X1_102 : Cond.fieldLinkNest RX1 102 RX3 "fault" "I" RX9 ∈ pw_N := pw_inN (pt_2 (List.mem_of_getElem? (i := 49) (by rfl))) (by rfl)
theorem fn_X9_117 : Cond.fieldLinkNest RX9 117 RX3 "fault" "I" RX9 ∈ pw_N := pw_inN (pt_2 (List.mem_of_getElem? (i := 50) (by rfl))) (by rfl)
theorem fn_X9_105 : Cond.fieldLinkNest RX9 105 RX1 "result" "I" RX9 ∈ pw_N := pw_inN (pt_2 (List.mem_of_getElem? (i := 111) (by rfl))) (by rfl)
theorem fn_X9_82 : Cond.fieldLinkNest RX9 82 RX1 "kept" "I" RX9 ∈ pw_N := pw_inN (pt_2 (List.mem_of_getElem? (i := 113) (by rfl))) (by rfl)
theorem fn_X8_82 : Cond.fieldLinkNest RX8 82 RX9 "BASE_TAKES" "[I" RX9 ∈ pw_N := pw_inN (pt_3 (List.mem_of_getElem? (i := 107) (by rfl))) (by rfl)
theorem fn_X3_129 : Cond.fieldLinkNest RX3 129 RX0 "values" "[I" RX9 ∈ pw_N := pw_inN (pt_3 (List.mem_of_getElem? (i := 163) (by rfl))) (by rfl)
theorem fn_X3_144 : Cond.fieldLinkNest RX3 144 RX0 "name" "I" RX9 ∈ pw_N := pw_inN (pt_3 (List.mem_of_getElem? (i := 166) (by rfl))) (by rfl)
theorem fn_X3_93 : Cond.fieldLinkNest RX3 93 RX0 "definition" "LLispMachine$Definition;" RX9 ∈ pw_N := pw_inN (pt_3 (List.mem_of_getElem? (i := 168) (by rfl))) (by rfl)
theorem fn_X3_76 : Cond.fieldLinkNest RX3 76 RX0 "termsLeft" "I" RX9 ∈ pw_N := pw_inN (pt_3 (List.mem_of_getElem? (i := 170) (by rfl))) (by rfl)
theorem fn_X3_89 : Cond.fieldLinkNest RX3 89 RX0 "scope" "LLispMachine$Call;" RX9 ∈ pw_N := pw_inN (pt_3 (List.mem_of_getElem? (i := 172) (by rfl))) (by rfl)
theorem fn_X3_97 : Cond.fieldLinkNest RX3 97 RX0 "entered" "Z" RX9 ∈ pw_N := pw_inN (pt_3 (List.mem_of_getElem? (i := 174) (by rfl))) (by rfl)
theorem fn_X4_21 : Cond.fieldLinkNest RX4 21 RX2 "name" "I" RX9 ∈ pw_N := pw_inN (pt_4 (List.mem_of_getElem? (i := 40) (by rfl))) (by rfl)
theorem fn_X3_49 : Cond.fieldLinkNest RX3 49 RX2 "name" "I" RX9 ∈ pw_N := pw_inN (pt_4 (List.mem_of_getElem? (i := 41) (by rfl))) (by rfl)
theorem fn_X1_168 : Cond.fieldLinkNest RX1 168 RX2 "name" "I" RX9 ∈ pw_N := pw_inN (pt_4 (List.mem_of_getElem? (i := 42) (by rfl))) (by rfl)
theorem fn_X1_128 : Cond.fieldLinkNest RX1 128 RX2 "takes" "I" RX9 ∈ pw_N := pw_inN (pt_4 (List.mem_of_getElem? (i := 44) (by rfl))) (by rfl)
theorem fn_X8_91 : Cond.fieldLinkNest RX8 91 RX2 "takes" "I" RX9 ∈ pw_N := pw_inN (pt_4 (List.mem_of_getElem? (i := 45) (by rfl))) (by rfl)
theorem fn_X3_126 : Cond.fieldLinkNest RX3 126 RX2 "parameters" "I" RX9 ∈ pw_N := pw_inN (pt_4 (List.mem_of_getElem? (i := 47) (by rfl))) (by rfl)
theorem fn_X1_155 : Cond.fieldLinkNest RX1 155 RX2 "parameters" "I" RX9 ∈ pw_N := pw_inN (pt_4 (List.mem_of_getElem? (i := 48) (by rfl))) (by rfl)
theorem fn_X3_101 : Cond.fieldLinkNest RX3 101 RX2 "body" "I" RX9 ∈ pw_N := pw_inN (pt_4 (List.mem_of_getElem? (i := 50) (by rfl))) (by rfl)
theorem fn_X1_158 : Cond.fieldLinkNest RX1 158 RX2 "body" "I" RX9 ∈ pw_N := pw_inN (pt_4 (List.mem_of_getElem? (i := 51) (by rfl))) (by rfl)
theorem ml_L_9 : Cond.methodLink RL 9 yX9_init ∈ pw_T := pw_in (pt_1 (List.mem_of_getElem? (i := 22) (by rfl))) (by rfl)
theorem ml_X9_1 : Cond.methodLink RX9 1 objectInit ∈ pw_T := pw_in (pt_1 (List.mem_of_getElem? (i := 25) (by rfl))) (by rfl)
theorem ml_X9_15 : Cond.methodLink RX9 15 yX6_init ∈ pw_T := pw_in (pt_1 (List.mem_of_getElem? (i := 30) (by rfl))) (by rfl)
theorem ml_X6_3 : Cond.methodLink RX6 3 objectInit ∈ pw_T := pw_in (pt_1 (List.mem_of_getElem? (i := 33) (by rfl))) (by rfl)
theorem ml_X6_28 : Cond.methodLink RX6 28 yJ7_fill_53178 ∈ pw_T := pw_in (pt_1 (List.mem_of_getElem? (i := 34) (by rfl))) (by rfl)
theorem ml_X6_36 : Cond.methodLink RX6 36 yJ0_length_8abf5 ∈ pw_T := pw_in (pt_1 (List.mem_of_getElem? (i := 38) (by rfl))) (by rfl)
theorem ml_J0_335 : Cond.methodLink RJ0 335 yJ0_coder_7d493 ∈ pw_T := pw_in (pt_1 (List.mem_of_getElem? (i := 42) (by rfl))) (by rfl)
theorem ml_X6_44 : Cond.methodLink RX6 44 yJ0_charAt_5068e ∈ pw_T := pw_in (pt_1 (List.mem_of_getElem? (i := 49) (by rfl))) (by rfl)
theorem ml_J0_492 : Cond.methodLink RJ0 492 yJ0_isLatin1_aae02 ∈ pw_T := pw_in (pt_1 (List.mem_of_getElem? (i := 53) (by rfl))) (by rfl)
theorem ml_J0_495 : Cond.methodLink RJ0 495 yJ1_charAt_3b067 ∈ pw_T := pw_in (pt_1 (List.mem_of_getElem? (i := 57) (by rfl))) (by rfl)
theorem ml_J1_9 : Cond.methodLink RJ1 9 yJ0_checkIndex_df160 ∈ pw_T := pw_in (pt_1 (List.mem_of_getElem? (i := 60) (by rfl))) (by rfl)
theorem ml_J0_1059 : Cond.methodLink RJ0 1059 yJ3_checkIndex_8e157 ∈ pw_T := pw_in (pt_1 (List.mem_of_getElem? (i := 65) (by rfl))) (by rfl)
theorem ml_J0_498 : Cond.methodLink RJ0 498 yJ2_charAt_3b067 ∈ pw_T := pw_in (pt_1 (List.mem_of_getElem? (i := 68) (by rfl))) (by rfl)
theorem ml_J2_67 : Cond.methodLink RJ2 67 yJ2_checkIndex_2214a ∈ pw_T := pw_in (pt_1 (List.mem_of_getElem? (i := 71) (by rfl))) (by rfl)
theorem ml_J2_48 : Cond.methodLink RJ2 48 yJ2_length_9d52b ∈ pw_T := pw_in (pt_1 (List.mem_of_getElem? (i := 74) (by rfl))) (by rfl)
theorem ml_J2_414 : Cond.methodLink RJ2 414 yJ0_checkIndex_df160 ∈ pw_T := pw_in (pt_1 (List.mem_of_getElem? (i := 77) (by rfl))) (by rfl)
theorem ml_J2_71 : Cond.methodLink RJ2 71 yJ2_getChar_3b067 ∈ pw_T := pw_in (pt_1 (List.mem_of_getElem? (i := 78) (by rfl))) (by rfl)
theorem ml_X6_48 : Cond.methodLink RX6 48 yJ0_indexOf_0f7a4 ∈ pw_T := pw_in (pt_1 (List.mem_of_getElem? (i := 87) (by rfl))) (by rfl)
theorem ml_J0_633 : Cond.methodLink RJ0 633 yJ0_indexOf_7cf53 ∈ pw_T := pw_in (pt_1 (List.mem_of_getElem? (i := 91) (by rfl))) (by rfl)
theorem ml_J0_505 : Cond.methodLink RJ0 505 yJ0_length_8abf5 ∈ pw_T := pw_in (pt_1 (List.mem_of_getElem? (i := 95) (by rfl))) (by rfl)
theorem ml_J0_637 : Cond.methodLink RJ0 637 yJ1_indexOf_4cfef ∈ pw_T := pw_in (pt_1 (List.mem_of_getElem? (i := 96) (by rfl))) (by rfl)
theorem ml_J1_88 : Cond.methodLink RJ1 88 yJ1_canEncode_9a6ad ∈ pw_T := pw_in (pt_1 (List.mem_of_getElem? (i := 99) (by rfl))) (by rfl)
theorem ml_J1_92 : Cond.methodLink RJ1 92 yJ9_max_7cf53 ∈ pw_T := pw_in (pt_1 (List.mem_of_getElem? (i := 102) (by rfl))) (by rfl)
theorem ml_J1_38 : Cond.methodLink RJ1 38 yJ9_min_7cf53 ∈ pw_T := pw_in (pt_1 (List.mem_of_getElem? (i := 105) (by rfl))) (by rfl)
theorem ml_J1_95 : Cond.methodLink RJ1 95 yJ1_indexOfChar_4cfef ∈ pw_T := pw_in (pt_1 (List.mem_of_getElem? (i := 108) (by rfl))) (by rfl)
theorem ml_J0_640 : Cond.methodLink RJ0 640 yJ2_indexOf_4cfef ∈ pw_T := pw_in (pt_1 (List.mem_of_getElem? (i := 111) (by rfl))) (by rfl)
theorem ml_J2_224 : Cond.methodLink RJ2 224 yJ9_max_7cf53 ∈ pw_T := pw_in (pt_1 (List.mem_of_getElem? (i := 114) (by rfl))) (by rfl)
theorem ml_J2_183 : Cond.methodLink RJ2 183 yJ9_min_7cf53 ∈ pw_T := pw_in (pt_1 (List.mem_of_getElem? (i := 115) (by rfl))) (by rfl)
theorem ml_J2_228 : Cond.methodLink RJ2 228 yJ2_indexOfChar_4cfef ∈ pw_T := pw_in (pt_1 (List.mem_of_getElem? (i := 117) (by rfl))) (by rfl)
theorem ml_J2_96 : Cond.methodLink RJ2 96 yJ2_checkBoundsBeginEnd_d044e ∈ pw_T := pw_in (pt_1 (List.mem_of_getElem? (i := 120) (by rfl))) (by rfl)
theorem ml_J2_241 : Cond.methodLink RJ2 241 yJ0_checkBoundsBeginEnd_23922 ∈ pw_T := pw_in (pt_1 (List.mem_of_getElem? (i := 123) (by rfl))) (by rfl)
theorem ml_J0_1062 : Cond.methodLink RJ0 1062 yJ3_checkFromToIndex_8c36e ∈ pw_T := pw_in (pt_1 (List.mem_of_getElem? (i := 126) (by rfl))) (by rfl)
theorem ml_J2_244 : Cond.methodLink RJ2 244 yJ2_indexOfCharUnsafe_4cfef ∈ pw_T := pw_in (pt_1 (List.mem_of_getElem? (i := 129) (by rfl))) (by rfl)
theorem ml_J2_232 : Cond.methodLink RJ2 232 yJ2_indexOfSupplementary_4cfef ∈ pw_T := pw_in (pt_1 (List.mem_of_getElem? (i := 132) (by rfl))) (by rfl)
theorem ml_J2_164 : Cond.methodLink RJ2 164 yJ11_isValidCodePoint_9a6ad ∈ pw_T := pw_in (pt_1 (List.mem_of_getElem? (i := 135) (by rfl))) (by rfl)
theorem ml_J2_157 : Cond.methodLink RJ2 157 yJ11_highSurrogate_5068e ∈ pw_T := pw_in (pt_1 (List.mem_of_getElem? (i := 138) (by rfl))) (by rfl)
theorem ml_J2_161 : Cond.methodLink RJ2 161 yJ11_lowSurrogate_5068e ∈ pw_T := pw_in (pt_1 (List.mem_of_getElem? (i := 142) (by rfl))) (by rfl)
theorem ml_X6_54 : Cond.methodLink RX6 54 yX6_hold ∈ pw_T := pw_in (pt_1 (List.mem_of_getElem? (i := 147) (by rfl))) (by rfl)
theorem ml_X6_94 : Cond.methodLink RX6 94 yX6_bucketOf ∈ pw_T := pw_in (pt_1 (List.mem_of_getElem? (i := 151) (by rfl))) (by rfl)
theorem ml_X9_22 : Cond.methodLink RX9 22 yX5_init ∈ pw_T := pw_in (pt_1 (List.mem_of_getElem? (i := 181) (by rfl))) (by rfl)
theorem ml_X5_3 : Cond.methodLink RX5 3 objectInit ∈ pw_T := pw_in (pt_1 (List.mem_of_getElem? (i := 184) (by rfl))) (by rfl)
theorem ml_X9_31 : Cond.methodLink RX9 31 yX7_init ∈ pw_T := pw_in (pt_1 (List.mem_of_getElem? (i := 234) (by rfl))) (by rfl)
theorem ml_X7_3 : Cond.methodLink RX7 3 objectInit ∈ pw_T := pw_in (pt_1 (List.mem_of_getElem? (i := 237) (by rfl))) (by rfl)
theorem ml_X4_3 : Cond.methodLink RX4 3 objectInit ∈ pw_T := pw_in (pt_2 (List.mem_of_getElem? (i := 20) (by rfl))) (by rfl)
theorem ml_X9_45 : Cond.methodLink RX9 45 yX3_init ∈ pw_T := pw_in (pt_2 (List.mem_of_getElem? (i := 34) (by rfl))) (by rfl)
theorem ml_X3_3 : Cond.methodLink RX3 3 objectInit ∈ pw_T := pw_in (pt_2 (List.mem_of_getElem? (i := 37) (by rfl))) (by rfl)
theorem ml_X9_54 : Cond.methodLink RX9 54 yX1_init ∈ pw_T := pw_in (pt_2 (List.mem_of_getElem? (i := 83) (by rfl))) (by rfl)
theorem ml_X1_3 : Cond.methodLink RX1 3 objectInit ∈ pw_T := pw_in (pt_2 (List.mem_of_getElem? (i := 86) (by rfl))) (by rfl)
theorem ml_X1_25 : Cond.methodLink RX1 25 yX8_init ∈ pw_T := pw_in (pt_2 (List.mem_of_getElem? (i := 89) (by rfl))) (by rfl)
theorem ml_X8_3 : Cond.methodLink RX8 3 objectInit ∈ pw_T := pw_in (pt_2 (List.mem_of_getElem? (i := 92) (by rfl))) (by rfl)
theorem ml_L_13 : Cond.methodLink RL 13 yX9_feed ∈ pw_T := pw_in (pt_2 (List.mem_of_getElem? (i := 149) (by rfl))) (by rfl)
theorem ml_L_18 : Cond.methodLink RL 18 yX9_end ∈ pw_T := pw_in (pt_2 (List.mem_of_getElem? (i := 153) (by rfl))) (by rfl)
theorem ml_X9_65 : Cond.methodLink RX9 65 yX5_append ∈ pw_T := pw_in (pt_2 (List.mem_of_getElem? (i := 157) (by rfl))) (by rfl)
theorem ml_X9_69 : Cond.methodLink RX9 69 yJ7_fill_53178 ∈ pw_T := pw_in (pt_2 (List.mem_of_getElem? (i := 161) (by rfl))) (by rfl)
theorem ml_L_23 : Cond.methodLink RL 23 yX9_fuel ∈ pw_T := pw_in (pt_2 (List.mem_of_getElem? (i := 162) (by rfl))) (by rfl)
theorem ml_L_27 : Cond.methodLink RL 27 yX9_run ∈ pw_T := pw_in (pt_2 (List.mem_of_getElem? (i := 166) (by rfl))) (by rfl)
theorem ml_X9_78 : Cond.methodLink RX9 78 yX7_clear ∈ pw_T := pw_in (pt_2 (List.mem_of_getElem? (i := 170) (by rfl))) (by rfl)
theorem ml_X9_81 : Cond.methodLink RX9 81 yX3_clear ∈ pw_T := pw_in (pt_2 (List.mem_of_getElem? (i := 174) (by rfl))) (by rfl)
theorem ml_X9_85 : Cond.methodLink RX9 85 yX6_forgetFrom ∈ pw_T := pw_in (pt_2 (List.mem_of_getElem? (i := 178) (by rfl))) (by rfl)
theorem ml_X9_89 : Cond.methodLink RX9 89 yX1_roomFor ∈ pw_T := pw_in (pt_2 (List.mem_of_getElem? (i := 182) (by rfl))) (by rfl)
theorem ml_X1_41 : Cond.methodLink RX1 41 yJ9_min_7cf53 ∈ pw_T := pw_in (pt_2 (List.mem_of_getElem? (i := 186) (by rfl))) (by rfl)
theorem ml_X9_93 : Cond.methodLink RX9 93 yX6_makeRoom ∈ pw_T := pw_in (pt_2 (List.mem_of_getElem? (i := 187) (by rfl))) (by rfl)
theorem ml_X6_87 : Cond.methodLink RX6 87 yJ7_copyOf_c38d5 ∈ pw_T := pw_in (pt_2 (List.mem_of_getElem? (i := 191) (by rfl))) (by rfl)
theorem ml_J7_319 : Cond.methodLink RJ7 319 ⟨"[J", "clone", "()Ljava/lang/Object;"⟩ ∈ pw_T := pw_in (pt_2 (List.mem_of_getElem? (i := 194) (by rfl))) (by rfl)
theorem ml_J7_304 : Cond.methodLink RJ7 304 yJ9_min_7cf53 ∈ pw_T := pw_in (pt_2 (List.mem_of_getElem? (i := 201) (by rfl))) (by rfl)
theorem ml_J7_150 : Cond.methodLink RJ7 150 ⟨"java/lang/System", "arraycopy", "(Ljava/lang/Object;ILjava/lang/Object;II)V"⟩ ∈ pw_T := pw_in (pt_2 (List.mem_of_getElem? (i := 202) (by rfl))) (by rfl)
theorem ml_X6_91 : Cond.methodLink RX6 91 yJ7_copyOf_59c91 ∈ pw_T := pw_in (pt_2 (List.mem_of_getElem? (i := 205) (by rfl))) (by rfl)
theorem ml_J7_316 : Cond.methodLink RJ7 316 ⟨"[I", "clone", "()Ljava/lang/Object;"⟩ ∈ pw_T := pw_in (pt_2 (List.mem_of_getElem? (i := 208) (by rfl))) (by rfl)
theorem ml_X9_97 : Cond.methodLink RX9 97 yX5_clear ∈ pw_T := pw_in (pt_2 (List.mem_of_getElem? (i := 213) (by rfl))) (by rfl)
theorem ml_X9_98 : Cond.methodLink RX9 98 yX5_read ∈ pw_T := pw_in (pt_2 (List.mem_of_getElem? (i := 217) (by rfl))) (by rfl)
theorem ml_X5_48 : Cond.methodLink RX5 48 yX5_clear ∈ pw_T := pw_in (pt_2 (List.mem_of_getElem? (i := 221) (by rfl))) (by rfl)
theorem ml_X5_51 : Cond.methodLink RX5 51 yX5_behindBlanks ∈ pw_T := pw_in (pt_2 (List.mem_of_getElem? (i := 222) (by rfl))) (by rfl)
theorem ml_X5_55 : Cond.methodLink RX5 55 yX5_behindWord ∈ pw_T := pw_in (pt_2 (List.mem_of_getElem? (i := 226) (by rfl))) (by rfl)
theorem ml_X5_65 : Cond.methodLink RX5 65 yX5_isAtomLetter ∈ pw_T := pw_in (pt_2 (List.mem_of_getElem? (i := 230) (by rfl))) (by rfl)
theorem ml_X5_78 : Cond.methodLink RX5 78 yJ0_indexOf_0f7a4 ∈ pw_T := pw_in (pt_2 (List.mem_of_getElem? (i := 234) (by rfl))) (by rfl)
theorem ml_X5_58 : Cond.methodLink RX5 58 yX5_faultOfWord ∈ pw_T := pw_in (pt_2 (List.mem_of_getElem? (i := 235) (by rfl))) (by rfl)
theorem ml_X5_69 : Cond.methodLink RX5 69 yX5_scanAtom ∈ pw_T := pw_in (pt_2 (List.mem_of_getElem? (i := 239) (by rfl))) (by rfl)
theorem ml_X5_73 : Cond.methodLink RX5 73 yX5_mayStand ∈ pw_T := pw_in (pt_3 (List.mem_of_getElem? (i := 7) (by rfl))) (by rfl)
theorem ml_X5_61 : Cond.methodLink RX5 61 yX5_take ∈ pw_T := pw_in (pt_3 (List.mem_of_getElem? (i := 11) (by rfl))) (by rfl)
theorem ml_X5_103 : Cond.methodLink RX5 103 yX5_openAt ∈ pw_T := pw_in (pt_3 (List.mem_of_getElem? (i := 15) (by rfl))) (by rfl)
theorem ml_X5_107 : Cond.methodLink RX5 107 yX5_closeList ∈ pw_T := pw_in (pt_3 (List.mem_of_getElem? (i := 19) (by rfl))) (by rfl)
theorem ml_X5_122 : Cond.methodLink RX5 122 yX6_pair ∈ pw_T := pw_in (pt_3 (List.mem_of_getElem? (i := 23) (by rfl))) (by rfl)
theorem ml_X6_58 : Cond.methodLink RX6 58 yX6_heightOf ∈ pw_T := pw_in (pt_3 (List.mem_of_getElem? (i := 27) (by rfl))) (by rfl)
theorem ml_X6_61 : Cond.methodLink RX6 61 yJ9_max_7cf53 ∈ pw_T := pw_in (pt_3 (List.mem_of_getElem? (i := 31) (by rfl))) (by rfl)
theorem ml_X5_119 : Cond.methodLink RX5 119 yX5_finish ∈ pw_T := pw_in (pt_3 (List.mem_of_getElem? (i := 32) (by rfl))) (by rfl)
theorem ml_X5_110 : Cond.methodLink RX5 110 yX6_natural ∈ pw_T := pw_in (pt_3 (List.mem_of_getElem? (i := 36) (by rfl))) (by rfl)
theorem ml_X5_116 : Cond.methodLink RX5 116 yX6_symbol ∈ pw_T := pw_in (pt_3 (List.mem_of_getElem? (i := 40) (by rfl))) (by rfl)
theorem ml_X9_102 : Cond.methodLink RX9 102 yX1_perform ∈ pw_T := pw_in (pt_3 (List.mem_of_getElem? (i := 44) (by rfl))) (by rfl)
theorem ml_X1_47 : Cond.methodLink RX1 47 yX6_lengthOf ∈ pw_T := pw_in (pt_3 (List.mem_of_getElem? (i := 48) (by rfl))) (by rfl)
theorem ml_X6_81 : Cond.methodLink RX6 81 yX6_isPair ∈ pw_T := pw_in (pt_3 (List.mem_of_getElem? (i := 52) (by rfl))) (by rfl)
theorem ml_X6_78 : Cond.methodLink RX6 78 yX6_tail ∈ pw_T := pw_in (pt_3 (List.mem_of_getElem? (i := 56) (by rfl))) (by rfl)
theorem ml_X1_51 : Cond.methodLink RX1 51 yX6_second ∈ pw_T := pw_in (pt_3 (List.mem_of_getElem? (i := 60) (by rfl))) (by rfl)
theorem ml_X6_75 : Cond.methodLink RX6 75 yX6_head ∈ pw_T := pw_in (pt_3 (List.mem_of_getElem? (i := 64) (by rfl))) (by rfl)
theorem ml_X1_54 : Cond.methodLink RX1 54 yX6_third ∈ pw_T := pw_in (pt_3 (List.mem_of_getElem? (i := 68) (by rfl))) (by rfl)
theorem ml_X1_60 : Cond.methodLink RX1 60 yX6_head ∈ pw_T := pw_in (pt_3 (List.mem_of_getElem? (i := 72) (by rfl))) (by rfl)
theorem ml_X1_63 : Cond.methodLink RX1 63 yX1_evaluate ∈ pw_T := pw_in (pt_3 (List.mem_of_getElem? (i := 73) (by rfl))) (by rfl)
theorem ml_X1_89 : Cond.methodLink RX1 89 yX8_isTerm ∈ pw_T := pw_in (pt_3 (List.mem_of_getElem? (i := 77) (by rfl))) (by rfl)
theorem ml_X8_23 : Cond.methodLink RX8 23 yX8_startWith ∈ pw_T := pw_in (pt_3 (List.mem_of_getElem? (i := 81) (by rfl))) (by rfl)
theorem ml_X8_31 : Cond.methodLink RX8 31 yX6_isVariable ∈ pw_T := pw_in (pt_3 (List.mem_of_getElem? (i := 85) (by rfl))) (by rfl)
theorem ml_X6_71 : Cond.methodLink RX6 71 yX6_isSymbol ∈ pw_T := pw_in (pt_3 (List.mem_of_getElem? (i := 89) (by rfl))) (by rfl)
theorem ml_X8_37 : Cond.methodLink RX8 37 yX6_isElement ∈ pw_T := pw_in (pt_3 (List.mem_of_getElem? (i := 93) (by rfl))) (by rfl)
theorem ml_X8_41 : Cond.methodLink RX8 41 yX6_isPair ∈ pw_T := pw_in (pt_3 (List.mem_of_getElem? (i := 97) (by rfl))) (by rfl)
theorem ml_X8_44 : Cond.methodLink RX8 44 yX6_isQuoted ∈ pw_T := pw_in (pt_3 (List.mem_of_getElem? (i := 98) (by rfl))) (by rfl)
theorem ml_X8_47 : Cond.methodLink RX8 47 yX6_head ∈ pw_T := pw_in (pt_3 (List.mem_of_getElem? (i := 102) (by rfl))) (by rfl)
theorem ml_X8_51 : Cond.methodLink RX8 51 yX8_takesOf ∈ pw_T := pw_in (pt_3 (List.mem_of_getElem? (i := 103) (by rfl))) (by rfl)
theorem ml_X8_85 : Cond.methodLink RX8 85 yX4_find ∈ pw_T := pw_in (pt_3 (List.mem_of_getElem? (i := 109) (by rfl))) (by rfl)
theorem ml_X8_54 : Cond.methodLink RX8 54 yX6_tail ∈ pw_T := pw_in (pt_3 (List.mem_of_getElem? (i := 113) (by rfl))) (by rfl)
theorem ml_X8_57 : Cond.methodLink RX8 57 yX6_lengthOf ∈ pw_T := pw_in (pt_3 (List.mem_of_getElem? (i := 114) (by rfl))) (by rfl)
theorem ml_X8_60 : Cond.methodLink RX8 60 yX8_addTermsOf ∈ pw_T := pw_in (pt_3 (List.mem_of_getElem? (i := 115) (by rfl))) (by rfl)
theorem ml_X1_93 : Cond.methodLink RX1 93 yX3_beginWith ∈ pw_T := pw_in (pt_3 (List.mem_of_getElem? (i := 119) (by rfl))) (by rfl)
theorem ml_X3_41 : Cond.methodLink RX3 41 yX3_evaluateNext ∈ pw_T := pw_in (pt_3 (List.mem_of_getElem? (i := 123) (by rfl))) (by rfl)
theorem ml_X1_99 : Cond.methodLink RX1 99 yX3_finish ∈ pw_T := pw_in (pt_3 (List.mem_of_getElem? (i := 127) (by rfl))) (by rfl)
theorem ml_X3_66 : Cond.methodLink RX3 66 yX3_beginTerm ∈ pw_T := pw_in (pt_3 (List.mem_of_getElem? (i := 132) (by rfl))) (by rfl)
theorem ml_X3_110 : Cond.methodLink RX3 110 yX6_isVariable ∈ pw_T := pw_in (pt_3 (List.mem_of_getElem? (i := 136) (by rfl))) (by rfl)
theorem ml_X3_113 : Cond.methodLink RX3 113 yX3_boundValueOf ∈ pw_T := pw_in (pt_3 (List.mem_of_getElem? (i := 137) (by rfl))) (by rfl)
theorem ml_X3_79 : Cond.methodLink RX3 79 yX6_isPair ∈ pw_T := pw_in (pt_3 (List.mem_of_getElem? (i := 141) (by rfl))) (by rfl)
theorem ml_X3_85 : Cond.methodLink RX3 85 yX6_head ∈ pw_T := pw_in (pt_3 (List.mem_of_getElem? (i := 142) (by rfl))) (by rfl)
theorem ml_X3_90 : Cond.methodLink RX3 90 yX6_tail ∈ pw_T := pw_in (pt_3 (List.mem_of_getElem? (i := 143) (by rfl))) (by rfl)
theorem ml_X3_116 : Cond.methodLink RX3 116 yX3_argumentOf ∈ pw_T := pw_in (pt_3 (List.mem_of_getElem? (i := 144) (by rfl))) (by rfl)
theorem ml_X3_120 : Cond.methodLink RX3 120 yX3_answer ∈ pw_T := pw_in (pt_3 (List.mem_of_getElem? (i := 148) (by rfl))) (by rfl)
theorem ml_X3_123 : Cond.methodLink RX3 123 yX6_second ∈ pw_T := pw_in (pt_3 (List.mem_of_getElem? (i := 152) (by rfl))) (by rfl)
theorem ml_X3_54 : Cond.methodLink RX3 54 yX3_openCall ∈ pw_T := pw_in (pt_3 (List.mem_of_getElem? (i := 153) (by rfl))) (by rfl)
theorem ml_X0_3 : Cond.methodLink RX0 3 objectInit ∈ pw_T := pw_in (pt_3 (List.mem_of_getElem? (i := 161) (by rfl))) (by rfl)
theorem ml_X3_134 : Cond.methodLink RX3 134 yX4_find ∈ pw_T := pw_in (pt_3 (List.mem_of_getElem? (i := 190) (by rfl))) (by rfl)
theorem ml_X3_140 : Cond.methodLink RX3 140 yX0_start ∈ pw_T := pw_in (pt_3 (List.mem_of_getElem? (i := 191) (by rfl))) (by rfl)
theorem ml_X3_72 : Cond.methodLink RX3 72 yX3_handOverValue ∈ pw_T := pw_in (pt_3 (List.mem_of_getElem? (i := 195) (by rfl))) (by rfl)
theorem ml_X3_58 : Cond.methodLink RX3 58 yX0_add ∈ pw_T := pw_in (pt_3 (List.mem_of_getElem? (i := 199) (by rfl))) (by rfl)
theorem ml_X3_104 : Cond.methodLink RX3 104 yX3_applyBase ∈ pw_T := pw_in (pt_3 (List.mem_of_getElem? (i := 203) (by rfl))) (by rfl)
theorem ml_X3_145 : Cond.methodLink RX3 145 yX3_truth ∈ pw_T := pw_in (pt_3 (List.mem_of_getElem? (i := 207) (by rfl))) (by rfl)
theorem ml_X3_149 : Cond.methodLink RX3 149 yX6_pair ∈ pw_T := pw_in (pt_3 (List.mem_of_getElem? (i := 210) (by rfl))) (by rfl)
theorem ml_X3_153 : Cond.methodLink RX3 153 yX6_amount ∈ pw_T := pw_in (pt_3 (List.mem_of_getElem? (i := 211) (by rfl))) (by rfl)
theorem ml_X6_84 : Cond.methodLink RX6 84 yX6_isNatural ∈ pw_T := pw_in (pt_3 (List.mem_of_getElem? (i := 215) (by rfl))) (by rfl)
theorem ml_X3_159 : Cond.methodLink RX3 159 yX6_natural ∈ pw_T := pw_in (pt_3 (List.mem_of_getElem? (i := 220) (by rfl))) (by rfl)
theorem ml_X3_163 : Cond.methodLink RX3 163 yJ9_max_f86c9 ∈ pw_T := pw_in (pt_3 (List.mem_of_getElem? (i := 221) (by rfl))) (by rfl)
theorem ml_X3_169 : Cond.methodLink RX3 169 yX6_isNatural ∈ pw_T := pw_in (pt_3 (List.mem_of_getElem? (i := 224) (by rfl))) (by rfl)
theorem ml_X3_172 : Cond.methodLink RX3 172 yX6_isSymbol ∈ pw_T := pw_in (pt_3 (List.mem_of_getElem? (i := 225) (by rfl))) (by rfl)
theorem ml_X3_175 : Cond.methodLink RX3 175 yX6_heightOf ∈ pw_T := pw_in (pt_3 (List.mem_of_getElem? (i := 226) (by rfl))) (by rfl)
theorem ml_X1_67 : Cond.methodLink RX1 67 yX1_boundVariables ∈ pw_T := pw_in (pt_3 (List.mem_of_getElem? (i := 227) (by rfl))) (by rfl)
theorem ml_X1_105 : Cond.methodLink RX1 105 yX6_isVariable ∈ pw_T := pw_in (pt_3 (List.mem_of_getElem? (i := 231) (by rfl))) (by rfl)
theorem ml_X1_109 : Cond.methodLink RX1 109 yX6_isElement ∈ pw_T := pw_in (pt_3 (List.mem_of_getElem? (i := 232) (by rfl))) (by rfl)
theorem ml_X1_113 : Cond.methodLink RX1 113 yX6_pair ∈ pw_T := pw_in (pt_3 (List.mem_of_getElem? (i := 233) (by rfl))) (by rfl)
theorem ml_X1_116 : Cond.methodLink RX1 116 yX6_tail ∈ pw_T := pw_in (pt_3 (List.mem_of_getElem? (i := 234) (by rfl))) (by rfl)
theorem ml_X1_70 : Cond.methodLink RX1 70 yX1_map ∈ pw_T := pw_in (pt_3 (List.mem_of_getElem? (i := 235) (by rfl))) (by rfl)
theorem ml_X1_119 : Cond.methodLink RX1 119 yX1_isFunctionName ∈ pw_T := pw_in (pt_3 (List.mem_of_getElem? (i := 239) (by rfl))) (by rfl)
theorem ml_X1_180 : Cond.methodLink RX1 180 yX6_isSymbol ∈ pw_T := pw_in (pt_4 (List.mem_of_getElem? (i := 3) (by rfl))) (by rfl)
theorem ml_X1_122 : Cond.methodLink RX1 122 yX4_find ∈ pw_T := pw_in (pt_4 (List.mem_of_getElem? (i := 4) (by rfl))) (by rfl)
theorem ml_X1_133 : Cond.methodLink RX1 133 yX3_beginCall ∈ pw_T := pw_in (pt_4 (List.mem_of_getElem? (i := 5) (by rfl))) (by rfl)
theorem ml_X1_137 : Cond.methodLink RX1 137 yX1_reversed ∈ pw_T := pw_in (pt_4 (List.mem_of_getElem? (i := 9) (by rfl))) (by rfl)
theorem ml_X1_73 : Cond.methodLink RX1 73 yX6_fourth ∈ pw_T := pw_in (pt_4 (List.mem_of_getElem? (i := 13) (by rfl))) (by rfl)
theorem ml_X1_76 : Cond.methodLink RX1 76 yX1_define ∈ pw_T := pw_in (pt_4 (List.mem_of_getElem? (i := 17) (by rfl))) (by rfl)
theorem ml_X1_140 : Cond.methodLink RX1 140 yX1_isDefinition ∈ pw_T := pw_in (pt_4 (List.mem_of_getElem? (i := 21) (by rfl))) (by rfl)
theorem ml_X1_161 : Cond.methodLink RX1 161 yX1_areParameters ∈ pw_T := pw_in (pt_4 (List.mem_of_getElem? (i := 25) (by rfl))) (by rfl)
theorem ml_X1_144 : Cond.methodLink RX1 144 yX4_isFull ∈ pw_T := pw_in (pt_4 (List.mem_of_getElem? (i := 29) (by rfl))) (by rfl)
theorem ml_X1_148 : Cond.methodLink RX1 148 yX2_init ∈ pw_T := pw_in (pt_4 (List.mem_of_getElem? (i := 35) (by rfl))) (by rfl)
theorem ml_X2_1 : Cond.methodLink RX2 1 objectInit ∈ pw_T := pw_in (pt_4 (List.mem_of_getElem? (i := 38) (by rfl))) (by rfl)
theorem ml_X1_151 : Cond.methodLink RX1 151 yX4_add ∈ pw_T := pw_in (pt_4 (List.mem_of_getElem? (i := 61) (by rfl))) (by rfl)
theorem ml_X4_24 : Cond.methodLink RX4 24 yX4_isFull ∈ pw_T := pw_in (pt_4 (List.mem_of_getElem? (i := 65) (by rfl))) (by rfl)
theorem ml_X1_79 : Cond.methodLink RX1 79 yX1_defineAnew ∈ pw_T := pw_in (pt_4 (List.mem_of_getElem? (i := 66) (by rfl))) (by rfl)
theorem ml_X1_82 : Cond.methodLink RX1 82 yX1_undo ∈ pw_T := pw_in (pt_4 (List.mem_of_getElem? (i := 70) (by rfl))) (by rfl)
theorem ml_X1_165 : Cond.methodLink RX1 165 yX4_at ∈ pw_T := pw_in (pt_4 (List.mem_of_getElem? (i := 74) (by rfl))) (by rfl)
theorem ml_X1_171 : Cond.methodLink RX1 171 yX8_isCalled ∈ pw_T := pw_in (pt_4 (List.mem_of_getElem? (i := 78) (by rfl))) (by rfl)
theorem ml_X8_63 : Cond.methodLink RX8 63 yX8_gather ∈ pw_T := pw_in (pt_4 (List.mem_of_getElem? (i := 82) (by rfl))) (by rfl)
theorem ml_X8_66 : Cond.methodLink RX8 66 yX8_isCall ∈ pw_T := pw_in (pt_4 (List.mem_of_getElem? (i := 86) (by rfl))) (by rfl)
theorem ml_X1_174 : Cond.methodLink RX1 174 yX4_removeLast ∈ pw_T := pw_in (pt_4 (List.mem_of_getElem? (i := 90) (by rfl))) (by rfl)
theorem ml_X1_86 : Cond.methodLink RX1 86 yX1_show ∈ pw_T := pw_in (pt_4 (List.mem_of_getElem? (i := 94) (by rfl))) (by rfl)
theorem ml_X1_177 : Cond.methodLink RX1 177 yX8_plain ∈ pw_T := pw_in (pt_4 (List.mem_of_getElem? (i := 98) (by rfl))) (by rfl)
theorem ml_X8_69 : Cond.methodLink RX8 69 yX8_listOfParts ∈ pw_T := pw_in (pt_4 (List.mem_of_getElem? (i := 102) (by rfl))) (by rfl)
theorem ml_X8_73 : Cond.methodLink RX8 73 yX6_pair ∈ pw_T := pw_in (pt_4 (List.mem_of_getElem? (i := 106) (by rfl))) (by rfl)
theorem ml_X8_76 : Cond.methodLink RX8 76 yX6_second ∈ pw_T := pw_in (pt_4 (List.mem_of_getElem? (i := 107) (by rfl))) (by rfl)
theorem ml_X8_79 : Cond.methodLink RX8 79 yX8_isPlainConstant ∈ pw_T := pw_in (pt_4 (List.mem_of_getElem? (i := 108) (by rfl))) (by rfl)
theorem ml_X8_96 : Cond.methodLink RX8 96 yX6_isNatural ∈ pw_T := pw_in (pt_4 (List.mem_of_getElem? (i := 112) (by rfl))) (by rfl)
theorem ml_X9_108 : Cond.methodLink RX9 108 yX7_tell ∈ pw_T := pw_in (pt_4 (List.mem_of_getElem? (i := 113) (by rfl))) (by rfl)
theorem ml_X7_30 : Cond.methodLink RX7 30 yX7_beginObject ∈ pw_T := pw_in (pt_4 (List.mem_of_getElem? (i := 117) (by rfl))) (by rfl)
theorem ml_X7_34 : Cond.methodLink RX7 34 yX6_isQuoted ∈ pw_T := pw_in (pt_4 (List.mem_of_getElem? (i := 121) (by rfl))) (by rfl)
theorem ml_X7_40 : Cond.methodLink RX7 40 yX7_put ∈ pw_T := pw_in (pt_4 (List.mem_of_getElem? (i := 122) (by rfl))) (by rfl)
theorem ml_X7_44 : Cond.methodLink RX7 44 yX6_second ∈ pw_T := pw_in (pt_4 (List.mem_of_getElem? (i := 126) (by rfl))) (by rfl)
theorem ml_X7_47 : Cond.methodLink RX7 47 yX6_isPair ∈ pw_T := pw_in (pt_4 (List.mem_of_getElem? (i := 127) (by rfl))) (by rfl)
theorem ml_X7_50 : Cond.methodLink RX7 50 yX7_beginRest ∈ pw_T := pw_in (pt_4 (List.mem_of_getElem? (i := 128) (by rfl))) (by rfl)
theorem ml_X7_61 : Cond.methodLink RX7 61 yX6_tail ∈ pw_T := pw_in (pt_4 (List.mem_of_getElem? (i := 132) (by rfl))) (by rfl)
theorem ml_X7_64 : Cond.methodLink RX7 64 yX6_head ∈ pw_T := pw_in (pt_4 (List.mem_of_getElem? (i := 133) (by rfl))) (by rfl)
theorem ml_X7_53 : Cond.methodLink RX7 53 yX7_putAtom ∈ pw_T := pw_in (pt_4 (List.mem_of_getElem? (i := 134) (by rfl))) (by rfl)
theorem ml_X7_67 : Cond.methodLink RX7 67 yX6_isNatural ∈ pw_T := pw_in (pt_4 (List.mem_of_getElem? (i := 138) (by rfl))) (by rfl)
theorem ml_X7_70 : Cond.methodLink RX7 70 yX6_amount ∈ pw_T := pw_in (pt_4 (List.mem_of_getElem? (i := 139) (by rfl))) (by rfl)
theorem ml_X7_74 : Cond.methodLink RX7 74 yX7_putNatural ∈ pw_T := pw_in (pt_4 (List.mem_of_getElem? (i := 140) (by rfl))) (by rfl)
theorem ml_X7_78 : Cond.methodLink RX7 78 yX6_spelling ∈ pw_T := pw_in (pt_4 (List.mem_of_getElem? (i := 147) (by rfl))) (by rfl)
theorem ml_X7_81 : Cond.methodLink RX7 81 yX7_putSymbol ∈ pw_T := pw_in (pt_4 (List.mem_of_getElem? (i := 151) (by rfl))) (by rfl)
theorem ml_X7_96 : Cond.methodLink RX7 96 yJ0_charAt_5068e ∈ pw_T := pw_in (pt_4 (List.mem_of_getElem? (i := 158) (by rfl))) (by rfl)
theorem ml_X7_57 : Cond.methodLink RX7 57 yX7_goOn ∈ pw_T := pw_in (pt_4 (List.mem_of_getElem? (i := 159) (by rfl))) (by rfl)
theorem ml_L_32 : Cond.methodLink RL 32 yX9_fault ∈ pw_T := pw_in (pt_4 (List.mem_of_getElem? (i := 163) (by rfl))) (by rfl)
theorem ml_L_36 : Cond.methodLink RL 36 yX9_steps ∈ pw_T := pw_in (pt_4 (List.mem_of_getElem? (i := 167) (by rfl))) (by rfl)
theorem ml_L_40 : Cond.methodLink RL 40 yX9_functions ∈ pw_T := pw_in (pt_4 (List.mem_of_getElem? (i := 171) (by rfl))) (by rfl)
theorem ml_L_44 : Cond.methodLink RL 44 yX9_size ∈ pw_T := pw_in (pt_4 (List.mem_of_getElem? (i := 175) (by rfl))) (by rfl)
theorem ml_L_48 : Cond.methodLink RL 48 yX9_letter ∈ pw_T := pw_in (pt_4 (List.mem_of_getElem? (i := 179) (by rfl))) (by rfl)
theorem ml_X9_125 : Cond.methodLink RX9 125 yX7_characterAt ∈ pw_T := pw_in (pt_4 (List.mem_of_getElem? (i := 183) (by rfl))) (by rfl)
theorem ml_L_12 : Cond.methodLink RL 12 yX10_init ∈ pw_T := pw_in (pt_4 (List.mem_of_getElem? (i := 189) (by rfl))) (by rfl)
theorem ml_X10_1 : Cond.methodLink RX10 1 objectInit ∈ pw_T := pw_in (pt_4 (List.mem_of_getElem? (i := 192) (by rfl))) (by rfl)
theorem ml_X10_141 : Cond.methodLink RX10 141 yX10_said ∈ pw_T := pw_in (pt_4 (List.mem_of_getElem? (i := 195) (by rfl))) (by rfl)
theorem ml_X10_148 : Cond.methodLink RX10 148 yX10_spell ∈ pw_T := pw_in (pt_4 (List.mem_of_getElem? (i := 199) (by rfl))) (by rfl)
theorem ml_X10_152 : Cond.methodLink RX10 152 yX10_symbol ∈ pw_T := pw_in (pt_4 (List.mem_of_getElem? (i := 203) (by rfl))) (by rfl)
theorem ml_X10_161 : Cond.methodLink RX10 161 yX10_spelled ∈ pw_T := pw_in (pt_4 (List.mem_of_getElem? (i := 207) (by rfl))) (by rfl)
theorem ml_X10_172 : Cond.methodLink RX10 172 yX10_isWord ∈ pw_T := pw_in (pt_4 (List.mem_of_getElem? (i := 211) (by rfl))) (by rfl)
theorem ml_X10_168 : Cond.methodLink RX10 168 yX10_added ∈ pw_T := pw_in (pt_4 (List.mem_of_getElem? (i := 215) (by rfl))) (by rfl)
theorem ml_L_17 : Cond.methodLink RL 17 yX10_feed ∈ pw_T := pw_in (pt_5 (List.mem_of_getElem? (i := 191) (by rfl))) (by rfl)
theorem ml_L_22 : Cond.methodLink RL 22 yX10_end ∈ pw_T := pw_in (pt_5 (List.mem_of_getElem? (i := 195) (by rfl))) (by rfl)
theorem ml_L_26 : Cond.methodLink RL 26 yX10_fuel ∈ pw_T := pw_in (pt_5 (List.mem_of_getElem? (i := 199) (by rfl))) (by rfl)
theorem ml_L_31 : Cond.methodLink RL 31 yX10_run ∈ pw_T := pw_in (pt_5 (List.mem_of_getElem? (i := 203) (by rfl))) (by rfl)
theorem ml_X10_479 : Cond.methodLink RX10 479 yX10_reads ∈ pw_T := pw_in (pt_5 (List.mem_of_getElem? (i := 207) (by rfl))) (by rfl)
theorem ml_X10_259 : Cond.methodLink RX10 259 yX10_skip ∈ pw_T := pw_in (pt_5 (List.mem_of_getElem? (i := 211) (by rfl))) (by rfl)
theorem ml_X10_262 : Cond.methodLink RX10 262 yX10_readWord ∈ pw_T := pw_in (pt_5 (List.mem_of_getElem? (i := 215) (by rfl))) (by rfl)
theorem ml_X10_236 : Cond.methodLink RX10 236 yX10_mayBegin ∈ pw_T := pw_in (pt_5 (List.mem_of_getElem? (i := 219) (by rfl))) (by rfl)
theorem ml_X10_240 : Cond.methodLink RX10 240 yX10_bad ∈ pw_T := pw_in (pt_5 (List.mem_of_getElem? (i := 223) (by rfl))) (by rfl)
theorem ml_X10_244 : Cond.methodLink RX10 244 yX10_begin ∈ pw_T := pw_in (pt_5 (List.mem_of_getElem? (i := 227) (by rfl))) (by rfl)
theorem ml_X10_247 : Cond.methodLink RX10 247 yX10_isInList ∈ pw_T := pw_in (pt_5 (List.mem_of_getElem? (i := 231) (by rfl))) (by rfl)
theorem ml_X10_250 : Cond.methodLink RX10 250 yX10_close ∈ pw_T := pw_in (pt_5 (List.mem_of_getElem? (i := 235) (by rfl))) (by rfl)
theorem ml_X10_183 : Cond.methodLink RX10 183 yX10_pair ∈ pw_T := pw_in (pt_5 (List.mem_of_getElem? (i := 239) (by rfl))) (by rfl)
theorem ml_X10_157 : Cond.methodLink RX10 157 yX10_slot ∈ pw_T := pw_in (pt_6 (List.mem_of_getElem? (i := 3) (by rfl))) (by rfl)
theorem ml_X10_223 : Cond.methodLink RX10 223 yX10_deliver ∈ pw_T := pw_in (pt_6 (List.mem_of_getElem? (i := 7) (by rfl))) (by rfl)
theorem ml_X10_189 : Cond.methodLink RX10 189 yX10_list2 ∈ pw_T := pw_in (pt_6 (List.mem_of_getElem? (i := 11) (by rfl))) (by rfl)
theorem ml_X10_186 : Cond.methodLink RX10 186 yX10_list1 ∈ pw_T := pw_in (pt_6 (List.mem_of_getElem? (i := 15) (by rfl))) (by rfl)
theorem ml_X10_253 : Cond.methodLink RX10 253 yX10_isAtom ∈ pw_T := pw_in (pt_6 (List.mem_of_getElem? (i := 19) (by rfl))) (by rfl)
theorem ml_X10_198 : Cond.methodLink RX10 198 yX10_isDigit ∈ pw_T := pw_in (pt_6 (List.mem_of_getElem? (i := 22) (by rfl))) (by rfl)
theorem ml_X10_256 : Cond.methodLink RX10 256 yX10_atom ∈ pw_T := pw_in (pt_6 (List.mem_of_getElem? (i := 25) (by rfl))) (by rfl)
theorem ml_X10_232 : Cond.methodLink RX10 232 yX10_natural ∈ pw_T := pw_in (pt_6 (List.mem_of_getElem? (i := 32) (by rfl))) (by rfl)
theorem ml_X10_482 : Cond.methodLink RX10 482 yX10_command ∈ pw_T := pw_in (pt_6 (List.mem_of_getElem? (i := 36) (by rfl))) (by rfl)
theorem ml_X10_195 : Cond.methodLink RX10 195 yX10_isPair ∈ pw_T := pw_in (pt_6 (List.mem_of_getElem? (i := 40) (by rfl))) (by rfl)
theorem ml_X10_461 : Cond.methodLink RX10 461 yX10_eval ∈ pw_T := pw_in (pt_6 (List.mem_of_getElem? (i := 44) (by rfl))) (by rfl)
theorem ml_X10_325 : Cond.methodLink RX10 325 yX10_lengthOf ∈ pw_T := pw_in (pt_6 (List.mem_of_getElem? (i := 48) (by rfl))) (by rfl)
theorem ml_X10_292 : Cond.methodLink RX10 292 yX10_nth ∈ pw_T := pw_in (pt_6 (List.mem_of_getElem? (i := 52) (by rfl))) (by rfl)
theorem ml_X10_430 : Cond.methodLink RX10 430 yX10_termOf ∈ pw_T := pw_in (pt_6 (List.mem_of_getElem? (i := 56) (by rfl))) (by rfl)
theorem ml_X10_334 : Cond.methodLink RX10 334 yX10_beginTerm ∈ pw_T := pw_in (pt_6 (List.mem_of_getElem? (i := 60) (by rfl))) (by rfl)
theorem ml_X10_316 : Cond.methodLink RX10 316 yX10_build ∈ pw_T := pw_in (pt_6 (List.mem_of_getElem? (i := 64) (by rfl))) (by rfl)
theorem ml_X10_286 : Cond.methodLink RX10 286 yX10_isQuoted ∈ pw_T := pw_in (pt_6 (List.mem_of_getElem? (i := 68) (by rfl))) (by rfl)
theorem ml_X10_319 : Cond.methodLink RX10 319 yX10_constantOf ∈ pw_T := pw_in (pt_6 (List.mem_of_getElem? (i := 72) (by rfl))) (by rfl)
theorem ml_X10_289 : Cond.methodLink RX10 289 yX10_isNatural ∈ pw_T := pw_in (pt_6 (List.mem_of_getElem? (i := 76) (by rfl))) (by rfl)
theorem ml_X10_268 : Cond.methodLink RX10 268 yX10_isSymbol ∈ pw_T := pw_in (pt_6 (List.mem_of_getElem? (i := 80) (by rfl))) (by rfl)
theorem ml_X10_322 : Cond.methodLink RX10 322 yX10_functionOf ∈ pw_T := pw_in (pt_6 (List.mem_of_getElem? (i := 84) (by rfl))) (by rfl)
theorem ml_X10_328 : Cond.methodLink RX10 328 yX10_manyOf ∈ pw_T := pw_in (pt_6 (List.mem_of_getElem? (i := 88) (by rfl))) (by rfl)
theorem ml_X10_331 : Cond.methodLink RX10 331 yX10_openCall ∈ pw_T := pw_in (pt_6 (List.mem_of_getElem? (i := 92) (by rfl))) (by rfl)
theorem ml_X10_337 : Cond.methodLink RX10 337 yX10_callFrom ∈ pw_T := pw_in (pt_6 (List.mem_of_getElem? (i := 96) (by rfl))) (by rfl)
theorem ml_X10_310 : Cond.methodLink RX10 310 yX10_sizeOf ∈ pw_T := pw_in (pt_6 (List.mem_of_getElem? (i := 100) (by rfl))) (by rfl)
theorem ml_X10_304 : Cond.methodLink RX10 304 yX10_isCall ∈ pw_T := pw_in (pt_6 (List.mem_of_getElem? (i := 104) (by rfl))) (by rfl)
theorem ml_X10_433 : Cond.methodLink RX10 433 yX10_hasOnly ∈ pw_T := pw_in (pt_6 (List.mem_of_getElem? (i := 108) (by rfl))) (by rfl)
theorem ml_X10_414 : Cond.methodLink RX10 414 yX10_variablesOf ∈ pw_T := pw_in (pt_6 (List.mem_of_getElem? (i := 112) (by rfl))) (by rfl)
theorem ml_X10_343 : Cond.methodLink RX10 343 yX10_walkTo ∈ pw_T := pw_in (pt_6 (List.mem_of_getElem? (i := 116) (by rfl))) (by rfl)
theorem ml_X10_346 : Cond.methodLink RX10 346 yX10_walkOn ∈ pw_T := pw_in (pt_6 (List.mem_of_getElem? (i := 120) (by rfl))) (by rfl)
theorem ml_X10_356 : Cond.methodLink RX10 356 yX10_isVariable ∈ pw_T := pw_in (pt_6 (List.mem_of_getElem? (i := 124) (by rfl))) (by rfl)
theorem ml_X10_417 : Cond.methodLink RX10 417 yX10_isIn ∈ pw_T := pw_in (pt_6 (List.mem_of_getElem? (i := 128) (by rfl))) (by rfl)
theorem ml_X10_436 : Cond.methodLink RX10 436 yX10_toldValue ∈ pw_T := pw_in (pt_6 (List.mem_of_getElem? (i := 132) (by rfl))) (by rfl)
theorem ml_X10_423 : Cond.methodLink RX10 423 yX10_evaluated ∈ pw_T := pw_in (pt_6 (List.mem_of_getElem? (i := 136) (by rfl))) (by rfl)
theorem ml_X10_397 : Cond.methodLink RX10 397 yX10_beginEval ∈ pw_T := pw_in (pt_6 (List.mem_of_getElem? (i := 140) (by rfl))) (by rfl)
theorem ml_X10_362 : Cond.methodLink RX10 362 yX10_isConstant ∈ pw_T := pw_in (pt_6 (List.mem_of_getElem? (i := 144) (by rfl))) (by rfl)
theorem ml_X10_365 : Cond.methodLink RX10 365 yX10_valueOf ∈ pw_T := pw_in (pt_6 (List.mem_of_getElem? (i := 148) (by rfl))) (by rfl)
theorem ml_X10_404 : Cond.methodLink RX10 404 yX10_takeValue ∈ pw_T := pw_in (pt_6 (List.mem_of_getElem? (i := 152) (by rfl))) (by rfl)
theorem ml_X10_394 : Cond.methodLink RX10 394 yX10_term ∈ pw_T := pw_in (pt_6 (List.mem_of_getElem? (i := 156) (by rfl))) (by rfl)
theorem ml_X10_408 : Cond.methodLink RX10 408 yX10_goOn ∈ pw_T := pw_in (pt_6 (List.mem_of_getElem? (i := 160) (by rfl))) (by rfl)
theorem ml_X10_401 : Cond.methodLink RX10 401 yX10_basic ∈ pw_T := pw_in (pt_6 (List.mem_of_getElem? (i := 164) (by rfl))) (by rfl)
theorem ml_X10_386 : Cond.methodLink RX10 386 yX10_truth ∈ pw_T := pw_in (pt_6 (List.mem_of_getElem? (i := 168) (by rfl))) (by rfl)
theorem ml_X10_390 : Cond.methodLink RX10 390 yX10_numberOf ∈ pw_T := pw_in (pt_6 (List.mem_of_getElem? (i := 171) (by rfl))) (by rfl)
theorem ml_X10_427 : Cond.methodLink RX10 427 yX10_tellOut ∈ pw_T := pw_in (pt_6 (List.mem_of_getElem? (i := 175) (by rfl))) (by rfl)
theorem ml_X10_420 : Cond.methodLink RX10 420 yX10_tellObject ∈ pw_T := pw_in (pt_6 (List.mem_of_getElem? (i := 179) (by rfl))) (by rfl)
theorem ml_X10_277 : Cond.methodLink RX10 277 yX10_later ∈ pw_T := pw_in (pt_6 (List.mem_of_getElem? (i := 183) (by rfl))) (by rfl)
theorem ml_X10_280 : Cond.methodLink RX10 280 yX10_isFull ∈ pw_T := pw_in (pt_6 (List.mem_of_getElem? (i := 187) (by rfl))) (by rfl)
theorem ml_X10_283 : Cond.methodLink RX10 283 yX10_tellAtom ∈ pw_T := pw_in (pt_6 (List.mem_of_getElem? (i := 191) (by rfl))) (by rfl)
theorem ml_X10_271 : Cond.methodLink RX10 271 yX10_tellLetter ∈ pw_T := pw_in (pt_6 (List.mem_of_getElem? (i := 195) (by rfl))) (by rfl)
theorem ml_X10_464 : Cond.methodLink RX10 464 yX10_with ∈ pw_T := pw_in (pt_6 (List.mem_of_getElem? (i := 199) (by rfl))) (by rfl)
theorem ml_X10_467 : Cond.methodLink RX10 467 yX10_map ∈ pw_T := pw_in (pt_6 (List.mem_of_getElem? (i := 203) (by rfl))) (by rfl)
theorem ml_X10_442 : Cond.methodLink RX10 442 yX10_isNewName ∈ pw_T := pw_in (pt_6 (List.mem_of_getElem? (i := 207) (by rfl))) (by rfl)
theorem ml_X10_411 : Cond.methodLink RX10 411 yX10_isReserved ∈ pw_T := pw_in (pt_6 (List.mem_of_getElem? (i := 211) (by rfl))) (by rfl)
theorem ml_X10_445 : Cond.methodLink RX10 445 yX10_definition ∈ pw_T := pw_in (pt_6 (List.mem_of_getElem? (i := 214) (by rfl))) (by rfl)
theorem ml_X10_470 : Cond.methodLink RX10 470 yX10_defun ∈ pw_T := pw_in (pt_6 (List.mem_of_getElem? (i := 218) (by rfl))) (by rfl)
theorem ml_X10_448 : Cond.methodLink RX10 448 yX10_areVariables ∈ pw_T := pw_in (pt_6 (List.mem_of_getElem? (i := 222) (by rfl))) (by rfl)
theorem ml_X10_473 : Cond.methodLink RX10 473 yX10_undo ∈ pw_T := pw_in (pt_6 (List.mem_of_getElem? (i := 226) (by rfl))) (by rfl)
theorem ml_X10_454 : Cond.methodLink RX10 454 yX10_hasCall ∈ pw_T := pw_in (pt_6 (List.mem_of_getElem? (i := 230) (by rfl))) (by rfl)
theorem ml_X10_349 : Cond.methodLink RX10 349 yX10_isCallOf ∈ pw_T := pw_in (pt_6 (List.mem_of_getElem? (i := 234) (by rfl))) (by rfl)
theorem ml_X10_476 : Cond.methodLink RX10 476 yX10_show ∈ pw_T := pw_in (pt_6 (List.mem_of_getElem? (i := 238) (by rfl))) (by rfl)
theorem ml_X10_457 : Cond.methodLink RX10 457 yX10_list4 ∈ pw_T := pw_in (pt_7 (List.mem_of_getElem? (i := 2) (by rfl))) (by rfl)
theorem ml_X10_192 : Cond.methodLink RX10 192 yX10_list3 ∈ pw_T := pw_in (pt_7 (List.mem_of_getElem? (i := 6) (by rfl))) (by rfl)
theorem ml_X10_485 : Cond.methodLink RX10 485 yX10_forget ∈ pw_T := pw_in (pt_7 (List.mem_of_getElem? (i := 10) (by rfl))) (by rfl)
theorem ml_X10_179 : Cond.methodLink RX10 179 yX10_slotOf ∈ pw_T := pw_in (pt_7 (List.mem_of_getElem? (i := 14) (by rfl))) (by rfl)
theorem ml_L_35 : Cond.methodLink RL 35 yX10_fault ∈ pw_T := pw_in (pt_7 (List.mem_of_getElem? (i := 18) (by rfl))) (by rfl)
theorem ml_L_39 : Cond.methodLink RL 39 yX10_steps ∈ pw_T := pw_in (pt_7 (List.mem_of_getElem? (i := 22) (by rfl))) (by rfl)
theorem ml_L_43 : Cond.methodLink RL 43 yX10_functions ∈ pw_T := pw_in (pt_7 (List.mem_of_getElem? (i := 26) (by rfl))) (by rfl)
theorem ml_L_47 : Cond.methodLink RL 47 yX10_size ∈ pw_T := pw_in (pt_7 (List.mem_of_getElem? (i := 30) (by rfl))) (by rfl)
theorem ml_L_51 : Cond.methodLink RL 51 yX10_letter ∈ pw_T := pw_in (pt_7 (List.mem_of_getElem? (i := 34) (by rfl))) (by rfl)
theorem mn_X9_38 : Cond.methodLinkNest RX9 38 yX4_init RX9 ∈ pw_N := pw_inN (pt_2 (List.mem_of_getElem? (i := 17) (by rfl))) (by rfl)
theorem mn_X3_133 : Cond.methodLinkNest RX3 133 yX0_init RX9 ∈ pw_N := pw_inN (pt_3 (List.mem_of_getElem? (i := 158) (by rfl))) (by rfl)
theorem kl_L_7 : Cond.classLink RL 7 RX9 ∈ pw_T := pw_in (pt_1 (List.mem_of_getElem? (i := 20) (by rfl))) (by rfl)
theorem kl_X9_13 : Cond.classLink RX9 13 RX6 ∈ pw_T := pw_in (pt_1 (List.mem_of_getElem? (i := 28) (by rfl))) (by rfl)
theorem kl_X9_20 : Cond.classLink RX9 20 RX5 ∈ pw_T := pw_in (pt_1 (List.mem_of_getElem? (i := 179) (by rfl))) (by rfl)
theorem kl_X9_29 : Cond.classLink RX9 29 RX7 ∈ pw_T := pw_in (pt_1 (List.mem_of_getElem? (i := 232) (by rfl))) (by rfl)
theorem kl_X9_36 : Cond.classLink RX9 36 RX4 ∈ pw_T := pw_in (pt_2 (List.mem_of_getElem? (i := 15) (by rfl))) (by rfl)
theorem kl_X4_9 : Cond.classLink RX4 9 RX2 ∈ pw_T := pw_in (pt_2 (List.mem_of_getElem? (i := 21) (by rfl))) (by rfl)
theorem kl_X9_43 : Cond.classLink RX9 43 RX3 ∈ pw_T := pw_in (pt_2 (List.mem_of_getElem? (i := 32) (by rfl))) (by rfl)
theorem kl_X3_11 : Cond.classLink RX3 11 RX0 ∈ pw_T := pw_in (pt_2 (List.mem_of_getElem? (i := 38) (by rfl))) (by rfl)
theorem kl_X9_52 : Cond.classLink RX9 52 RX1 ∈ pw_T := pw_in (pt_2 (List.mem_of_getElem? (i := 81) (by rfl))) (by rfl)
theorem kl_X1_23 : Cond.classLink RX1 23 RX8 ∈ pw_T := pw_in (pt_2 (List.mem_of_getElem? (i := 87) (by rfl))) (by rfl)
theorem kl_J7_320 : Cond.classLink RJ7 320 "[J" ∈ pw_T := pw_in (pt_2 (List.mem_of_getElem? (i := 200) (by rfl))) (by rfl)
theorem kl_J7_317 : Cond.classLink RJ7 317 "[I" ∈ pw_T := pw_in (pt_2 (List.mem_of_getElem? (i := 212) (by rfl))) (by rfl)
theorem kl_X1_129 : Cond.classLink RX1 129 RX2 ∈ pw_T := pw_in (pt_4 (List.mem_of_getElem? (i := 33) (by rfl))) (by rfl)
theorem kl_L_10 : Cond.classLink RL 10 RX10 ∈ pw_T := pw_in (pt_4 (List.mem_of_getElem? (i := 187) (by rfl))) (by rfl)
theorem ki_J2_227 : Cond.constant RJ2 227 (65536) ∈ pw_T := pw_in (pt_1 (List.mem_of_getElem? (i := 116) (by rfl))) (by rfl)
theorem ki_J11_110 : Cond.constant RJ11 110 (55232) ∈ pw_T := pw_in (pt_1 (List.mem_of_getElem? (i := 141) (by rfl))) (by rfl)
theorem ki_J11_76 : Cond.constant RJ11 76 (56320) ∈ pw_T := pw_in (pt_1 (List.mem_of_getElem? (i := 145) (by rfl))) (by rfl)
theorem ki_X3_62 : Cond.constant RX3 62 (1000000) ∈ pw_T := pw_in (pt_3 (List.mem_of_getElem? (i := 131) (by rfl))) (by rfl)
theorem ki_X10_7 : Cond.constant RX10 7 (40000) ∈ pw_T := pw_in (pt_4 (List.mem_of_getElem? (i := 193) (by rfl))) (by rfl)
theorem ki_X10_33 : Cond.constant RX10 33 (48000) ∈ pw_T := pw_in (pt_4 (List.mem_of_getElem? (i := 194) (by rfl))) (by rfl)
theorem ki_X10_156 : Cond.constant RX10 156 (40503) ∈ pw_T := pw_in (pt_6 (List.mem_of_getElem? (i := 6) (by rfl))) (by rfl)
theorem kj_X6_52 : Cond.constantLong RX6 52 (47) ∈ pw_T := pw_in (pt_1 (List.mem_of_getElem? (i := 146) (by rfl))) (by rfl)
theorem kj_X6_98 : Cond.constantLong RX6 98 (-7046029254386353131) ∈ pw_T := pw_in (pt_1 (List.mem_of_getElem? (i := 154) (by rfl))) (by rfl)
theorem kj_X6_100 : Cond.constantLong RX6 100 (-4658895280553007687) ∈ pw_T := pw_in (pt_1 (List.mem_of_getElem? (i := 155) (by rfl))) (by rfl)
theorem kj_X5_95 : Cond.constantLong RX5 95 (47) ∈ pw_T := pw_in (pt_3 (List.mem_of_getElem? (i := 3) (by rfl))) (by rfl)
theorem kj_X5_97 : Cond.constantLong RX5 97 (4611686018427387903) ∈ pw_T := pw_in (pt_3 (List.mem_of_getElem? (i := 4) (by rfl))) (by rfl)
theorem kj_X5_99 : Cond.constantLong RX5 99 (10) ∈ pw_T := pw_in (pt_3 (List.mem_of_getElem? (i := 5) (by rfl))) (by rfl)
theorem kj_X5_101 : Cond.constantLong RX5 101 (4611686018427387904) ∈ pw_T := pw_in (pt_3 (List.mem_of_getElem? (i := 6) (by rfl))) (by rfl)
theorem kj_X3_157 : Cond.constantLong RX3 157 (4611686018427387903) ∈ pw_T := pw_in (pt_3 (List.mem_of_getElem? (i := 219) (by rfl))) (by rfl)
theorem kj_X7_84 : Cond.constantLong RX7 84 (1000000000000000000) ∈ pw_T := pw_in (pt_4 (List.mem_of_getElem? (i := 144) (by rfl))) (by rfl)
theorem kj_X7_86 : Cond.constantLong RX7 86 (48) ∈ pw_T := pw_in (pt_4 (List.mem_of_getElem? (i := 145) (by rfl))) (by rfl)
theorem kj_X7_88 : Cond.constantLong RX7 88 (10) ∈ pw_T := pw_in (pt_4 (List.mem_of_getElem? (i := 146) (by rfl))) (by rfl)
theorem kj_X7_90 : Cond.constantLong RX7 90 (52599132235830049) ∈ pw_T := pw_in (pt_4 (List.mem_of_getElem? (i := 155) (by rfl))) (by rfl)
theorem kj_X7_94 : Cond.constantLong RX7 94 (47) ∈ pw_T := pw_in (pt_4 (List.mem_of_getElem? (i := 157) (by rfl))) (by rfl)
theorem kj_X10_226 : Cond.constantLong RX10 226 (4611686018427387903) ∈ pw_T := pw_in (pt_6 (List.mem_of_getElem? (i := 29) (by rfl))) (by rfl)
theorem kj_X10_228 : Cond.constantLong RX10 228 (10) ∈ pw_T := pw_in (pt_6 (List.mem_of_getElem? (i := 30) (by rfl))) (by rfl)
theorem kj_X10_230 : Cond.constantLong RX10 230 (48) ∈ pw_T := pw_in (pt_6 (List.mem_of_getElem? (i := 31) (by rfl))) (by rfl)
theorem my_X9_init : pw_YI yX9_init cX9_init 1 0 := ⟨⟨pw_in (pt_1 (List.mem_of_getElem? (i := 24) (by rfl))) (by rfl), pw_in (pt_1 (List.mem_of_getElem? (i := 1) (by rfl))) (by rfl), by decide +kernel, by decide +kernel, by decide +kernel⟩, pw_in (pt_1 (List.mem_of_getElem? (i := 23) (by rfl))) (by rfl), rfl⟩
theorem my_X6_init : pw_YI yX6_init cX6_init 5 0 := ⟨⟨pw_in (pt_1 (List.mem_of_getElem? (i := 32) (by rfl))) (by rfl), pw_in (pt_1 (List.mem_of_getElem? (i := 2) (by rfl))) (by rfl), by decide +kernel, by decide +kernel, by decide +kernel⟩, pw_in (pt_1 (List.mem_of_getElem? (i := 31) (by rfl))) (by rfl), rfl⟩
theorem my_J7_fill_53178 : pw_YS yJ7_fill_53178 cJ7_fill_53178 4 none 2 := ⟨⟨pw_in (pt_1 (List.mem_of_getElem? (i := 36) (by rfl))) (by rfl), pw_in (pt_1 (List.mem_of_getElem? (i := 3) (by rfl))) (by rfl), by decide +kernel, by decide +kernel, by decide +kernel⟩, pw_in (pt_1 (List.mem_of_getElem? (i := 35) (by rfl))) (by rfl)⟩
theorem my_J0_length_8abf5 : pw_YV yJ0_length_8abf5 cJ0_length_8abf5 1 (some .int) 0 := ⟨⟨pw_in (pt_1 (List.mem_of_getElem? (i := 41) (by rfl))) (by rfl), pw_in (pt_1 (List.mem_of_getElem? (i := 4) (by rfl))) (by rfl), by decide +kernel, by decide +kernel, by decide +kernel⟩, pw_in (pt_1 (List.mem_of_getElem? (i := 39) (by rfl))) (by rfl), pw_in (pt_1 (List.mem_of_getElem? (i := 40) (by rfl))) (by rfl)⟩
theorem my_J0_coder_7d493 : pw_YV yJ0_coder_7d493 cJ0_coder_7d493 1 (some .byte) 0 := ⟨⟨pw_in (pt_1 (List.mem_of_getElem? (i := 45) (by rfl))) (by rfl), pw_in (pt_1 (List.mem_of_getElem? (i := 4) (by rfl))) (by rfl), by decide +kernel, by decide +kernel, by decide +kernel⟩, pw_in (pt_1 (List.mem_of_getElem? (i := 43) (by rfl))) (by rfl), pw_in (pt_1 (List.mem_of_getElem? (i := 44) (by rfl))) (by rfl)⟩
theorem my_J0_charAt_5068e : pw_YV yJ0_charAt_5068e cJ0_charAt_5068e 2 (some .char) 1 := ⟨⟨pw_in (pt_1 (List.mem_of_getElem? (i := 52) (by rfl))) (by rfl), pw_in (pt_1 (List.mem_of_getElem? (i := 4) (by rfl))) (by rfl), by decide +kernel, by decide +kernel, by decide +kernel⟩, pw_in (pt_1 (List.mem_of_getElem? (i := 50) (by rfl))) (by rfl), pw_in (pt_1 (List.mem_of_getElem? (i := 51) (by rfl))) (by rfl)⟩
theorem my_J0_isLatin1_aae02 : pw_YV yJ0_isLatin1_aae02 cJ0_isLatin1_aae02 1 (some .boolean) 0 := ⟨⟨pw_in (pt_1 (List.mem_of_getElem? (i := 56) (by rfl))) (by rfl), pw_in (pt_1 (List.mem_of_getElem? (i := 4) (by rfl))) (by rfl), by decide +kernel, by decide +kernel, by decide +kernel⟩, pw_in (pt_1 (List.mem_of_getElem? (i := 54) (by rfl))) (by rfl), pw_in (pt_1 (List.mem_of_getElem? (i := 55) (by rfl))) (by rfl)⟩
theorem my_J1_charAt_3b067 : pw_YS yJ1_charAt_3b067 cJ1_charAt_3b067 2 (some .char) 2 := ⟨⟨pw_in (pt_1 (List.mem_of_getElem? (i := 59) (by rfl))) (by rfl), pw_in (pt_1 (List.mem_of_getElem? (i := 5) (by rfl))) (by rfl), by decide +kernel, by decide +kernel, by decide +kernel⟩, pw_in (pt_1 (List.mem_of_getElem? (i := 58) (by rfl))) (by rfl)⟩
theorem my_J0_checkIndex_df160 : pw_YS yJ0_checkIndex_df160 cJ0_checkIndex_df160 2 none 2 := ⟨⟨pw_in (pt_1 (List.mem_of_getElem? (i := 62) (by rfl))) (by rfl), pw_in (pt_1 (List.mem_of_getElem? (i := 4) (by rfl))) (by rfl), by decide +kernel, by decide +kernel, by decide +kernel⟩, pw_in (pt_1 (List.mem_of_getElem? (i := 61) (by rfl))) (by rfl)⟩
theorem my_J3_checkIndex_8e157 : pw_YS yJ3_checkIndex_8e157 cJ3_checkIndex_8e157 3 (some .int) 3 := ⟨⟨pw_in (pt_1 (List.mem_of_getElem? (i := 67) (by rfl))) (by rfl), pw_in (pt_1 (List.mem_of_getElem? (i := 6) (by rfl))) (by rfl), by decide +kernel, by decide +kernel, by decide +kernel⟩, pw_in (pt_1 (List.mem_of_getElem? (i := 66) (by rfl))) (by rfl)⟩
theorem my_J2_charAt_3b067 : pw_YS yJ2_charAt_3b067 cJ2_charAt_3b067 2 (some .char) 2 := ⟨⟨pw_in (pt_1 (List.mem_of_getElem? (i := 70) (by rfl))) (by rfl), pw_in (pt_1 (List.mem_of_getElem? (i := 7) (by rfl))) (by rfl), by decide +kernel, by decide +kernel, by decide +kernel⟩, pw_in (pt_1 (List.mem_of_getElem? (i := 69) (by rfl))) (by rfl)⟩
theorem my_J2_checkIndex_2214a : pw_YS yJ2_checkIndex_2214a cJ2_checkIndex_2214a 2 none 2 := ⟨⟨pw_in (pt_1 (List.mem_of_getElem? (i := 73) (by rfl))) (by rfl), pw_in (pt_1 (List.mem_of_getElem? (i := 7) (by rfl))) (by rfl), by decide +kernel, by decide +kernel, by decide +kernel⟩, pw_in (pt_1 (List.mem_of_getElem? (i := 72) (by rfl))) (by rfl)⟩
theorem my_J2_length_9d52b : pw_YS yJ2_length_9d52b cJ2_length_9d52b 1 (some .int) 1 := ⟨⟨pw_in (pt_1 (List.mem_of_getElem? (i := 76) (by rfl))) (by rfl), pw_in (pt_1 (List.mem_of_getElem? (i := 7) (by rfl))) (by rfl), by decide +kernel, by decide +kernel, by decide +kernel⟩, pw_in (pt_1 (List.mem_of_getElem? (i := 75) (by rfl))) (by rfl)⟩
theorem my_J2_getChar_3b067 : pw_YS yJ2_getChar_3b067 cJ2_getChar_3b067 2 (some .char) 2 := ⟨⟨pw_in (pt_1 (List.mem_of_getElem? (i := 80) (by rfl))) (by rfl), pw_in (pt_1 (List.mem_of_getElem? (i := 7) (by rfl))) (by rfl), by decide +kernel, by decide +kernel, by decide +kernel⟩, pw_in (pt_1 (List.mem_of_getElem? (i := 79) (by rfl))) (by rfl)⟩
theorem my_J0_indexOf_0f7a4 : pw_YV yJ0_indexOf_0f7a4 cJ0_indexOf_0f7a4 2 (some .int) 1 := ⟨⟨pw_in (pt_1 (List.mem_of_getElem? (i := 90) (by rfl))) (by rfl), pw_in (pt_1 (List.mem_of_getElem? (i := 4) (by rfl))) (by rfl), by decide +kernel, by decide +kernel, by decide +kernel⟩, pw_in (pt_1 (List.mem_of_getElem? (i := 88) (by rfl))) (by rfl), pw_in (pt_1 (List.mem_of_getElem? (i := 89) (by rfl))) (by rfl)⟩
theorem my_J0_indexOf_7cf53 : pw_YV yJ0_indexOf_7cf53 cJ0_indexOf_7cf53 3 (some .int) 2 := ⟨⟨pw_in (pt_1 (List.mem_of_getElem? (i := 94) (by rfl))) (by rfl), pw_in (pt_1 (List.mem_of_getElem? (i := 4) (by rfl))) (by rfl), by decide +kernel, by decide +kernel, by decide +kernel⟩, pw_in (pt_1 (List.mem_of_getElem? (i := 92) (by rfl))) (by rfl), pw_in (pt_1 (List.mem_of_getElem? (i := 93) (by rfl))) (by rfl)⟩
theorem my_J1_indexOf_4cfef : pw_YS yJ1_indexOf_4cfef cJ1_indexOf_4cfef 4 (some .int) 4 := ⟨⟨pw_in (pt_1 (List.mem_of_getElem? (i := 98) (by rfl))) (by rfl), pw_in (pt_1 (List.mem_of_getElem? (i := 5) (by rfl))) (by rfl), by decide +kernel, by decide +kernel, by decide +kernel⟩, pw_in (pt_1 (List.mem_of_getElem? (i := 97) (by rfl))) (by rfl)⟩
theorem my_J1_canEncode_9a6ad : pw_YS yJ1_canEncode_9a6ad cJ1_canEncode_9a6ad 1 (some .boolean) 1 := ⟨⟨pw_in (pt_1 (List.mem_of_getElem? (i := 101) (by rfl))) (by rfl), pw_in (pt_1 (List.mem_of_getElem? (i := 5) (by rfl))) (by rfl), by decide +kernel, by decide +kernel, by decide +kernel⟩, pw_in (pt_1 (List.mem_of_getElem? (i := 100) (by rfl))) (by rfl)⟩
theorem my_J9_max_7cf53 : pw_YS yJ9_max_7cf53 cJ9_max_7cf53 2 (some .int) 2 := ⟨⟨pw_in (pt_1 (List.mem_of_getElem? (i := 104) (by rfl))) (by rfl), pw_in (pt_1 (List.mem_of_getElem? (i := 8) (by rfl))) (by rfl), by decide +kernel, by decide +kernel, by decide +kernel⟩, pw_in (pt_1 (List.mem_of_getElem? (i := 103) (by rfl))) (by rfl)⟩
theorem my_J9_min_7cf53 : pw_YS yJ9_min_7cf53 cJ9_min_7cf53 2 (some .int) 2 := ⟨⟨pw_in (pt_1 (List.mem_of_getElem? (i := 107) (by rfl))) (by rfl), pw_in (pt_1 (List.mem_of_getElem? (i := 8) (by rfl))) (by rfl), by decide +kernel, by decide +kernel, by decide +kernel⟩, pw_in (pt_1 (List.mem_of_getElem? (i := 106) (by rfl))) (by rfl)⟩
theorem my_J1_indexOfChar_4cfef : pw_YS yJ1_indexOfChar_4cfef cJ1_indexOfChar_4cfef 6 (some .int) 4 := ⟨⟨pw_in (pt_1 (List.mem_of_getElem? (i := 110) (by rfl))) (by rfl), pw_in (pt_1 (List.mem_of_getElem? (i := 5) (by rfl))) (by rfl), by decide +kernel, by decide +kernel, by decide +kernel⟩, pw_in (pt_1 (List.mem_of_getElem? (i := 109) (by rfl))) (by rfl)⟩
theorem my_J2_indexOf_4cfef : pw_YS yJ2_indexOf_4cfef cJ2_indexOf_4cfef 4 (some .int) 4 := ⟨⟨pw_in (pt_1 (List.mem_of_getElem? (i := 113) (by rfl))) (by rfl), pw_in (pt_1 (List.mem_of_getElem? (i := 7) (by rfl))) (by rfl), by decide +kernel, by decide +kernel, by decide +kernel⟩, pw_in (pt_1 (List.mem_of_getElem? (i := 112) (by rfl))) (by rfl)⟩
theorem my_J2_indexOfChar_4cfef : pw_YS yJ2_indexOfChar_4cfef cJ2_indexOfChar_4cfef 4 (some .int) 4 := ⟨⟨pw_in (pt_1 (List.mem_of_getElem? (i := 119) (by rfl))) (by rfl), pw_in (pt_1 (List.mem_of_getElem? (i := 7) (by rfl))) (by rfl), by decide +kernel, by decide +kernel, by decide +kernel⟩, pw_in (pt_1 (List.mem_of_getElem? (i := 118) (by rfl))) (by rfl)⟩
theorem my_J2_checkBoundsBeginEnd_d044e : pw_YS yJ2_checkBoundsBeginEnd_d044e cJ2_checkBoundsBeginEnd_d044e 3 none 3 := ⟨⟨pw_in (pt_1 (List.mem_of_getElem? (i := 122) (by rfl))) (by rfl), pw_in (pt_1 (List.mem_of_getElem? (i := 7) (by rfl))) (by rfl), by decide +kernel, by decide +kernel, by decide +kernel⟩, pw_in (pt_1 (List.mem_of_getElem? (i := 121) (by rfl))) (by rfl)⟩
theorem my_J0_checkBoundsBeginEnd_23922 : pw_YS yJ0_checkBoundsBeginEnd_23922 cJ0_checkBoundsBeginEnd_23922 3 none 3 := ⟨⟨pw_in (pt_1 (List.mem_of_getElem? (i := 125) (by rfl))) (by rfl), pw_in (pt_1 (List.mem_of_getElem? (i := 4) (by rfl))) (by rfl), by decide +kernel, by decide +kernel, by decide +kernel⟩, pw_in (pt_1 (List.mem_of_getElem? (i := 124) (by rfl))) (by rfl)⟩
theorem my_J3_checkFromToIndex_8c36e : pw_YS yJ3_checkFromToIndex_8c36e cJ3_checkFromToIndex_8c36e 4 (some .int) 4 := ⟨⟨pw_in (pt_1 (List.mem_of_getElem? (i := 128) (by rfl))) (by rfl), pw_in (pt_1 (List.mem_of_getElem? (i := 6) (by rfl))) (by rfl), by decide +kernel, by decide +kernel, by decide +kernel⟩, pw_in (pt_1 (List.mem_of_getElem? (i := 127) (by rfl))) (by rfl)⟩
theorem my_J2_indexOfCharUnsafe_4cfef : pw_YS yJ2_indexOfCharUnsafe_4cfef cJ2_indexOfCharUnsafe_4cfef 5 (some .int) 4 := ⟨⟨pw_in (pt_1 (List.mem_of_getElem? (i := 131) (by rfl))) (by rfl), pw_in (pt_1 (List.mem_of_getElem? (i := 7) (by rfl))) (by rfl), by decide +kernel, by decide +kernel, by decide +kernel⟩, pw_in (pt_1 (List.mem_of_getElem? (i := 130) (by rfl))) (by rfl)⟩
theorem my_J2_indexOfSupplementary_4cfef : pw_YS yJ2_indexOfSupplementary_4cfef cJ2_indexOfSupplementary_4cfef 7 (some .int) 4 := ⟨⟨pw_in (pt_1 (List.mem_of_getElem? (i := 134) (by rfl))) (by rfl), pw_in (pt_1 (List.mem_of_getElem? (i := 7) (by rfl))) (by rfl), by decide +kernel, by decide +kernel, by decide +kernel⟩, pw_in (pt_1 (List.mem_of_getElem? (i := 133) (by rfl))) (by rfl)⟩
theorem my_J11_isValidCodePoint_9a6ad : pw_YS yJ11_isValidCodePoint_9a6ad cJ11_isValidCodePoint_9a6ad 2 (some .boolean) 1 := ⟨⟨pw_in (pt_1 (List.mem_of_getElem? (i := 137) (by rfl))) (by rfl), pw_in (pt_1 (List.mem_of_getElem? (i := 9) (by rfl))) (by rfl), by decide +kernel, by decide +kernel, by decide +kernel⟩, pw_in (pt_1 (List.mem_of_getElem? (i := 136) (by rfl))) (by rfl)⟩
theorem my_J11_highSurrogate_5068e : pw_YS yJ11_highSurrogate_5068e cJ11_highSurrogate_5068e 1 (some .char) 1 := ⟨⟨pw_in (pt_1 (List.mem_of_getElem? (i := 140) (by rfl))) (by rfl), pw_in (pt_1 (List.mem_of_getElem? (i := 9) (by rfl))) (by rfl), by decide +kernel, by decide +kernel, by decide +kernel⟩, pw_in (pt_1 (List.mem_of_getElem? (i := 139) (by rfl))) (by rfl)⟩
theorem my_J11_lowSurrogate_5068e : pw_YS yJ11_lowSurrogate_5068e cJ11_lowSurrogate_5068e 1 (some .char) 1 := ⟨⟨pw_in (pt_1 (List.mem_of_getElem? (i := 144) (by rfl))) (by rfl), pw_in (pt_1 (List.mem_of_getElem? (i := 9) (by rfl))) (by rfl), by decide +kernel, by decide +kernel, by decide +kernel⟩, pw_in (pt_1 (List.mem_of_getElem? (i := 143) (by rfl))) (by rfl)⟩
theorem my_X6_hold : pw_YV yX6_hold cX6_hold 8 (some .int) 3 := ⟨⟨pw_in (pt_1 (List.mem_of_getElem? (i := 150) (by rfl))) (by rfl), pw_in (pt_1 (List.mem_of_getElem? (i := 2) (by rfl))) (by rfl), by decide +kernel, by decide +kernel, by decide +kernel⟩, pw_in (pt_1 (List.mem_of_getElem? (i := 149) (by rfl))) (by rfl), pw_in (pt_0 (List.mem_of_getElem? (i := 0) (by rfl))) (by rfl)⟩
theorem my_X6_bucketOf : pw_YS yX6_bucketOf cX6_bucketOf 5 (some .int) 2 := ⟨⟨pw_in (pt_1 (List.mem_of_getElem? (i := 153) (by rfl))) (by rfl), pw_in (pt_1 (List.mem_of_getElem? (i := 2) (by rfl))) (by rfl), by decide +kernel, by decide +kernel, by decide +kernel⟩, pw_in (pt_1 (List.mem_of_getElem? (i := 152) (by rfl))) (by rfl)⟩
theorem my_X5_init : pw_YI yX5_init cX5_init 2 1 := ⟨⟨pw_in (pt_1 (List.mem_of_getElem? (i := 183) (by rfl))) (by rfl), pw_in (pt_1 (List.mem_of_getElem? (i := 10) (by rfl))) (by rfl), by decide +kernel, by decide +kernel, by decide +kernel⟩, pw_in (pt_1 (List.mem_of_getElem? (i := 182) (by rfl))) (by rfl), rfl⟩
theorem my_X7_init : pw_YI yX7_init cX7_init 2 1 := ⟨⟨pw_in (pt_1 (List.mem_of_getElem? (i := 236) (by rfl))) (by rfl), pw_in (pt_1 (List.mem_of_getElem? (i := 11) (by rfl))) (by rfl), by decide +kernel, by decide +kernel, by decide +kernel⟩, pw_in (pt_1 (List.mem_of_getElem? (i := 235) (by rfl))) (by rfl), rfl⟩
theorem my_X4_init : pw_YI yX4_init cX4_init 1 0 := ⟨⟨pw_in (pt_2 (List.mem_of_getElem? (i := 19) (by rfl))) (by rfl), pw_in (pt_1 (List.mem_of_getElem? (i := 12) (by rfl))) (by rfl), by decide +kernel, by decide +kernel, by decide +kernel⟩, pw_in (pt_2 (List.mem_of_getElem? (i := 18) (by rfl))) (by rfl), rfl⟩
theorem my_X3_init : pw_YI yX3_init cX3_init 3 2 := ⟨⟨pw_in (pt_2 (List.mem_of_getElem? (i := 36) (by rfl))) (by rfl), pw_in (pt_1 (List.mem_of_getElem? (i := 13) (by rfl))) (by rfl), by decide +kernel, by decide +kernel, by decide +kernel⟩, pw_in (pt_2 (List.mem_of_getElem? (i := 35) (by rfl))) (by rfl), rfl⟩
theorem my_X1_init : pw_YI yX1_init cX1_init 4 3 := ⟨⟨pw_in (pt_2 (List.mem_of_getElem? (i := 85) (by rfl))) (by rfl), pw_in (pt_1 (List.mem_of_getElem? (i := 14) (by rfl))) (by rfl), by decide +kernel, by decide +kernel, by decide +kernel⟩, pw_in (pt_2 (List.mem_of_getElem? (i := 84) (by rfl))) (by rfl), rfl⟩
theorem my_X8_init : pw_YI yX8_init cX8_init 3 2 := ⟨⟨pw_in (pt_2 (List.mem_of_getElem? (i := 91) (by rfl))) (by rfl), pw_in (pt_1 (List.mem_of_getElem? (i := 15) (by rfl))) (by rfl), by decide +kernel, by decide +kernel, by decide +kernel⟩, pw_in (pt_2 (List.mem_of_getElem? (i := 90) (by rfl))) (by rfl), rfl⟩
theorem my_X9_feed : pw_YV yX9_feed cX9_feed 6 none 5 := ⟨⟨pw_in (pt_2 (List.mem_of_getElem? (i := 152) (by rfl))) (by rfl), pw_in (pt_1 (List.mem_of_getElem? (i := 1) (by rfl))) (by rfl), by decide +kernel, by decide +kernel, by decide +kernel⟩, pw_in (pt_2 (List.mem_of_getElem? (i := 150) (by rfl))) (by rfl), pw_in (pt_2 (List.mem_of_getElem? (i := 151) (by rfl))) (by rfl)⟩
theorem my_X9_end : pw_YV yX9_end cX9_end 3 (some .int) 1 := ⟨⟨pw_in (pt_2 (List.mem_of_getElem? (i := 156) (by rfl))) (by rfl), pw_in (pt_1 (List.mem_of_getElem? (i := 1) (by rfl))) (by rfl), by decide +kernel, by decide +kernel, by decide +kernel⟩, pw_in (pt_2 (List.mem_of_getElem? (i := 154) (by rfl))) (by rfl), pw_in (pt_2 (List.mem_of_getElem? (i := 155) (by rfl))) (by rfl)⟩
theorem my_X5_append : pw_YV yX5_append cX5_append 2 none 1 := ⟨⟨pw_in (pt_2 (List.mem_of_getElem? (i := 160) (by rfl))) (by rfl), pw_in (pt_1 (List.mem_of_getElem? (i := 10) (by rfl))) (by rfl), by decide +kernel, by decide +kernel, by decide +kernel⟩, pw_in (pt_2 (List.mem_of_getElem? (i := 158) (by rfl))) (by rfl), pw_in (pt_2 (List.mem_of_getElem? (i := 159) (by rfl))) (by rfl)⟩
theorem my_X9_fuel : pw_YV yX9_fuel cX9_fuel 3 (some .int) 1 := ⟨⟨pw_in (pt_2 (List.mem_of_getElem? (i := 165) (by rfl))) (by rfl), pw_in (pt_1 (List.mem_of_getElem? (i := 1) (by rfl))) (by rfl), by decide +kernel, by decide +kernel, by decide +kernel⟩, pw_in (pt_2 (List.mem_of_getElem? (i := 163) (by rfl))) (by rfl), pw_in (pt_2 (List.mem_of_getElem? (i := 164) (by rfl))) (by rfl)⟩
theorem my_X9_run : pw_YV yX9_run cX9_run 3 (some .int) 0 := ⟨⟨pw_in (pt_2 (List.mem_of_getElem? (i := 169) (by rfl))) (by rfl), pw_in (pt_1 (List.mem_of_getElem? (i := 1) (by rfl))) (by rfl), by decide +kernel, by decide +kernel, by decide +kernel⟩, pw_in (pt_2 (List.mem_of_getElem? (i := 167) (by rfl))) (by rfl), pw_in (pt_2 (List.mem_of_getElem? (i := 168) (by rfl))) (by rfl)⟩
theorem my_X7_clear : pw_YV yX7_clear cX7_clear 1 none 0 := ⟨⟨pw_in (pt_2 (List.mem_of_getElem? (i := 173) (by rfl))) (by rfl), pw_in (pt_1 (List.mem_of_getElem? (i := 11) (by rfl))) (by rfl), by decide +kernel, by decide +kernel, by decide +kernel⟩, pw_in (pt_2 (List.mem_of_getElem? (i := 171) (by rfl))) (by rfl), pw_in (pt_2 (List.mem_of_getElem? (i := 172) (by rfl))) (by rfl)⟩
theorem my_X3_clear : pw_YV yX3_clear cX3_clear 1 none 0 := ⟨⟨pw_in (pt_2 (List.mem_of_getElem? (i := 177) (by rfl))) (by rfl), pw_in (pt_1 (List.mem_of_getElem? (i := 13) (by rfl))) (by rfl), by decide +kernel, by decide +kernel, by decide +kernel⟩, pw_in (pt_2 (List.mem_of_getElem? (i := 175) (by rfl))) (by rfl), pw_in (pt_2 (List.mem_of_getElem? (i := 176) (by rfl))) (by rfl)⟩
theorem my_X6_forgetFrom : pw_YV yX6_forgetFrom cX6_forgetFrom 3 none 1 := ⟨⟨pw_in (pt_2 (List.mem_of_getElem? (i := 181) (by rfl))) (by rfl), pw_in (pt_1 (List.mem_of_getElem? (i := 2) (by rfl))) (by rfl), by decide +kernel, by decide +kernel, by decide +kernel⟩, pw_in (pt_2 (List.mem_of_getElem? (i := 179) (by rfl))) (by rfl), pw_in (pt_2 (List.mem_of_getElem? (i := 180) (by rfl))) (by rfl)⟩
theorem my_X1_roomFor : pw_YV yX1_roomFor cX1_roomFor 2 (some .int) 1 := ⟨⟨pw_in (pt_2 (List.mem_of_getElem? (i := 185) (by rfl))) (by rfl), pw_in (pt_1 (List.mem_of_getElem? (i := 14) (by rfl))) (by rfl), by decide +kernel, by decide +kernel, by decide +kernel⟩, pw_in (pt_2 (List.mem_of_getElem? (i := 183) (by rfl))) (by rfl), pw_in (pt_2 (List.mem_of_getElem? (i := 184) (by rfl))) (by rfl)⟩
theorem my_X6_makeRoom : pw_YV yX6_makeRoom cX6_makeRoom 3 (some .boolean) 1 := ⟨⟨pw_in (pt_2 (List.mem_of_getElem? (i := 190) (by rfl))) (by rfl), pw_in (pt_1 (List.mem_of_getElem? (i := 2) (by rfl))) (by rfl), by decide +kernel, by decide +kernel, by decide +kernel⟩, pw_in (pt_2 (List.mem_of_getElem? (i := 188) (by rfl))) (by rfl), pw_in (pt_2 (List.mem_of_getElem? (i := 189) (by rfl))) (by rfl)⟩
theorem my_J7_copyOf_c38d5 : pw_YS yJ7_copyOf_c38d5 cJ7_copyOf_c38d5 3 (some (.array .long)) 2 := ⟨⟨pw_in (pt_2 (List.mem_of_getElem? (i := 193) (by rfl))) (by rfl), pw_in (pt_1 (List.mem_of_getElem? (i := 3) (by rfl))) (by rfl), by decide +kernel, by decide +kernel, by decide +kernel⟩, pw_in (pt_2 (List.mem_of_getElem? (i := 192) (by rfl))) (by rfl)⟩
theorem my_J7_copyOf_59c91 : pw_YS yJ7_copyOf_59c91 cJ7_copyOf_59c91 3 (some (.array .int)) 2 := ⟨⟨pw_in (pt_2 (List.mem_of_getElem? (i := 207) (by rfl))) (by rfl), pw_in (pt_1 (List.mem_of_getElem? (i := 3) (by rfl))) (by rfl), by decide +kernel, by decide +kernel, by decide +kernel⟩, pw_in (pt_2 (List.mem_of_getElem? (i := 206) (by rfl))) (by rfl)⟩
theorem my_X5_clear : pw_YV yX5_clear cX5_clear 1 none 0 := ⟨⟨pw_in (pt_2 (List.mem_of_getElem? (i := 216) (by rfl))) (by rfl), pw_in (pt_1 (List.mem_of_getElem? (i := 10) (by rfl))) (by rfl), by decide +kernel, by decide +kernel, by decide +kernel⟩, pw_in (pt_2 (List.mem_of_getElem? (i := 214) (by rfl))) (by rfl), pw_in (pt_2 (List.mem_of_getElem? (i := 215) (by rfl))) (by rfl)⟩
theorem my_X5_read : pw_YV yX5_read cX5_read 5 (some .int) 0 := ⟨⟨pw_in (pt_2 (List.mem_of_getElem? (i := 220) (by rfl))) (by rfl), pw_in (pt_1 (List.mem_of_getElem? (i := 10) (by rfl))) (by rfl), by decide +kernel, by decide +kernel, by decide +kernel⟩, pw_in (pt_2 (List.mem_of_getElem? (i := 218) (by rfl))) (by rfl), pw_in (pt_2 (List.mem_of_getElem? (i := 219) (by rfl))) (by rfl)⟩
theorem my_X5_behindBlanks : pw_YV yX5_behindBlanks cX5_behindBlanks 6 (some .int) 2 := ⟨⟨pw_in (pt_2 (List.mem_of_getElem? (i := 225) (by rfl))) (by rfl), pw_in (pt_1 (List.mem_of_getElem? (i := 10) (by rfl))) (by rfl), by decide +kernel, by decide +kernel, by decide +kernel⟩, pw_in (pt_2 (List.mem_of_getElem? (i := 224) (by rfl))) (by rfl), pw_in (pt_0 (List.mem_of_getElem? (i := 1) (by rfl))) (by rfl)⟩
theorem my_X5_behindWord : pw_YV yX5_behindWord cX5_behindWord 4 (some .int) 2 := ⟨⟨pw_in (pt_2 (List.mem_of_getElem? (i := 229) (by rfl))) (by rfl), pw_in (pt_1 (List.mem_of_getElem? (i := 10) (by rfl))) (by rfl), by decide +kernel, by decide +kernel, by decide +kernel⟩, pw_in (pt_2 (List.mem_of_getElem? (i := 228) (by rfl))) (by rfl), pw_in (pt_0 (List.mem_of_getElem? (i := 2) (by rfl))) (by rfl)⟩
theorem my_X5_isAtomLetter : pw_YS yX5_isAtomLetter cX5_isAtomLetter 1 (some .boolean) 1 := ⟨⟨pw_in (pt_2 (List.mem_of_getElem? (i := 232) (by rfl))) (by rfl), pw_in (pt_1 (List.mem_of_getElem? (i := 10) (by rfl))) (by rfl), by decide +kernel, by decide +kernel, by decide +kernel⟩, pw_in (pt_2 (List.mem_of_getElem? (i := 231) (by rfl))) (by rfl)⟩
theorem my_X5_faultOfWord : pw_YV yX5_faultOfWord cX5_faultOfWord 5 (some .int) 2 := ⟨⟨pw_in (pt_2 (List.mem_of_getElem? (i := 238) (by rfl))) (by rfl), pw_in (pt_1 (List.mem_of_getElem? (i := 10) (by rfl))) (by rfl), by decide +kernel, by decide +kernel, by decide +kernel⟩, pw_in (pt_2 (List.mem_of_getElem? (i := 237) (by rfl))) (by rfl), pw_in (pt_0 (List.mem_of_getElem? (i := 3) (by rfl))) (by rfl)⟩
theorem my_X5_scanAtom : pw_YV yX5_scanAtom cX5_scanAtom 5 (some .boolean) 2 := ⟨⟨pw_in (pt_3 (List.mem_of_getElem? (i := 2) (by rfl))) (by rfl), pw_in (pt_1 (List.mem_of_getElem? (i := 10) (by rfl))) (by rfl), by decide +kernel, by decide +kernel, by decide +kernel⟩, pw_in (pt_3 (List.mem_of_getElem? (i := 1) (by rfl))) (by rfl), pw_in (pt_0 (List.mem_of_getElem? (i := 4) (by rfl))) (by rfl)⟩
theorem my_X5_mayStand : pw_YV yX5_mayStand cX5_mayStand 3 (some .boolean) 1 := ⟨⟨pw_in (pt_3 (List.mem_of_getElem? (i := 10) (by rfl))) (by rfl), pw_in (pt_1 (List.mem_of_getElem? (i := 10) (by rfl))) (by rfl), by decide +kernel, by decide +kernel, by decide +kernel⟩, pw_in (pt_3 (List.mem_of_getElem? (i := 9) (by rfl))) (by rfl), pw_in (pt_0 (List.mem_of_getElem? (i := 5) (by rfl))) (by rfl)⟩
theorem my_X5_take : pw_YV yX5_take cX5_take 2 none 1 := ⟨⟨pw_in (pt_3 (List.mem_of_getElem? (i := 14) (by rfl))) (by rfl), pw_in (pt_1 (List.mem_of_getElem? (i := 10) (by rfl))) (by rfl), by decide +kernel, by decide +kernel, by decide +kernel⟩, pw_in (pt_3 (List.mem_of_getElem? (i := 13) (by rfl))) (by rfl), pw_in (pt_0 (List.mem_of_getElem? (i := 6) (by rfl))) (by rfl)⟩
theorem my_X5_openAt : pw_YV yX5_openAt cX5_openAt 2 none 1 := ⟨⟨pw_in (pt_3 (List.mem_of_getElem? (i := 18) (by rfl))) (by rfl), pw_in (pt_1 (List.mem_of_getElem? (i := 10) (by rfl))) (by rfl), by decide +kernel, by decide +kernel, by decide +kernel⟩, pw_in (pt_3 (List.mem_of_getElem? (i := 17) (by rfl))) (by rfl), pw_in (pt_0 (List.mem_of_getElem? (i := 7) (by rfl))) (by rfl)⟩
theorem my_X5_closeList : pw_YV yX5_closeList cX5_closeList 2 none 0 := ⟨⟨pw_in (pt_3 (List.mem_of_getElem? (i := 22) (by rfl))) (by rfl), pw_in (pt_1 (List.mem_of_getElem? (i := 10) (by rfl))) (by rfl), by decide +kernel, by decide +kernel, by decide +kernel⟩, pw_in (pt_3 (List.mem_of_getElem? (i := 21) (by rfl))) (by rfl), pw_in (pt_0 (List.mem_of_getElem? (i := 8) (by rfl))) (by rfl)⟩
theorem my_X6_pair : pw_YV yX6_pair cX6_pair 3 (some .int) 2 := ⟨⟨pw_in (pt_3 (List.mem_of_getElem? (i := 26) (by rfl))) (by rfl), pw_in (pt_1 (List.mem_of_getElem? (i := 2) (by rfl))) (by rfl), by decide +kernel, by decide +kernel, by decide +kernel⟩, pw_in (pt_3 (List.mem_of_getElem? (i := 24) (by rfl))) (by rfl), pw_in (pt_3 (List.mem_of_getElem? (i := 25) (by rfl))) (by rfl)⟩
theorem my_X6_heightOf : pw_YV yX6_heightOf cX6_heightOf 2 (some .int) 1 := ⟨⟨pw_in (pt_3 (List.mem_of_getElem? (i := 30) (by rfl))) (by rfl), pw_in (pt_1 (List.mem_of_getElem? (i := 2) (by rfl))) (by rfl), by decide +kernel, by decide +kernel, by decide +kernel⟩, pw_in (pt_3 (List.mem_of_getElem? (i := 28) (by rfl))) (by rfl), pw_in (pt_3 (List.mem_of_getElem? (i := 29) (by rfl))) (by rfl)⟩
theorem my_X5_finish : pw_YV yX5_finish cX5_finish 3 none 1 := ⟨⟨pw_in (pt_3 (List.mem_of_getElem? (i := 35) (by rfl))) (by rfl), pw_in (pt_1 (List.mem_of_getElem? (i := 10) (by rfl))) (by rfl), by decide +kernel, by decide +kernel, by decide +kernel⟩, pw_in (pt_3 (List.mem_of_getElem? (i := 34) (by rfl))) (by rfl), pw_in (pt_0 (List.mem_of_getElem? (i := 9) (by rfl))) (by rfl)⟩
theorem my_X6_natural : pw_YV yX6_natural cX6_natural 3 (some .int) 1 := ⟨⟨pw_in (pt_3 (List.mem_of_getElem? (i := 39) (by rfl))) (by rfl), pw_in (pt_1 (List.mem_of_getElem? (i := 2) (by rfl))) (by rfl), by decide +kernel, by decide +kernel, by decide +kernel⟩, pw_in (pt_3 (List.mem_of_getElem? (i := 37) (by rfl))) (by rfl), pw_in (pt_3 (List.mem_of_getElem? (i := 38) (by rfl))) (by rfl)⟩
theorem my_X6_symbol : pw_YV yX6_symbol cX6_symbol 3 (some .int) 1 := ⟨⟨pw_in (pt_3 (List.mem_of_getElem? (i := 43) (by rfl))) (by rfl), pw_in (pt_1 (List.mem_of_getElem? (i := 2) (by rfl))) (by rfl), by decide +kernel, by decide +kernel, by decide +kernel⟩, pw_in (pt_3 (List.mem_of_getElem? (i := 41) (by rfl))) (by rfl), pw_in (pt_3 (List.mem_of_getElem? (i := 42) (by rfl))) (by rfl)⟩
theorem my_X1_perform : pw_YV yX1_perform cX1_perform 5 (some .int) 1 := ⟨⟨pw_in (pt_3 (List.mem_of_getElem? (i := 47) (by rfl))) (by rfl), pw_in (pt_1 (List.mem_of_getElem? (i := 14) (by rfl))) (by rfl), by decide +kernel, by decide +kernel, by decide +kernel⟩, pw_in (pt_3 (List.mem_of_getElem? (i := 45) (by rfl))) (by rfl), pw_in (pt_3 (List.mem_of_getElem? (i := 46) (by rfl))) (by rfl)⟩
theorem my_X6_lengthOf : pw_YV yX6_lengthOf cX6_lengthOf 4 (some .int) 1 := ⟨⟨pw_in (pt_3 (List.mem_of_getElem? (i := 51) (by rfl))) (by rfl), pw_in (pt_1 (List.mem_of_getElem? (i := 2) (by rfl))) (by rfl), by decide +kernel, by decide +kernel, by decide +kernel⟩, pw_in (pt_3 (List.mem_of_getElem? (i := 49) (by rfl))) (by rfl), pw_in (pt_3 (List.mem_of_getElem? (i := 50) (by rfl))) (by rfl)⟩
theorem my_X6_isPair : pw_YV yX6_isPair cX6_isPair 2 (some .boolean) 1 := ⟨⟨pw_in (pt_3 (List.mem_of_getElem? (i := 55) (by rfl))) (by rfl), pw_in (pt_1 (List.mem_of_getElem? (i := 2) (by rfl))) (by rfl), by decide +kernel, by decide +kernel, by decide +kernel⟩, pw_in (pt_3 (List.mem_of_getElem? (i := 53) (by rfl))) (by rfl), pw_in (pt_3 (List.mem_of_getElem? (i := 54) (by rfl))) (by rfl)⟩
theorem my_X6_tail : pw_YV yX6_tail cX6_tail 2 (some .int) 1 := ⟨⟨pw_in (pt_3 (List.mem_of_getElem? (i := 59) (by rfl))) (by rfl), pw_in (pt_1 (List.mem_of_getElem? (i := 2) (by rfl))) (by rfl), by decide +kernel, by decide +kernel, by decide +kernel⟩, pw_in (pt_3 (List.mem_of_getElem? (i := 57) (by rfl))) (by rfl), pw_in (pt_3 (List.mem_of_getElem? (i := 58) (by rfl))) (by rfl)⟩
theorem my_X6_second : pw_YV yX6_second cX6_second 2 (some .int) 1 := ⟨⟨pw_in (pt_3 (List.mem_of_getElem? (i := 63) (by rfl))) (by rfl), pw_in (pt_1 (List.mem_of_getElem? (i := 2) (by rfl))) (by rfl), by decide +kernel, by decide +kernel, by decide +kernel⟩, pw_in (pt_3 (List.mem_of_getElem? (i := 61) (by rfl))) (by rfl), pw_in (pt_3 (List.mem_of_getElem? (i := 62) (by rfl))) (by rfl)⟩
theorem my_X6_head : pw_YV yX6_head cX6_head 2 (some .int) 1 := ⟨⟨pw_in (pt_3 (List.mem_of_getElem? (i := 67) (by rfl))) (by rfl), pw_in (pt_1 (List.mem_of_getElem? (i := 2) (by rfl))) (by rfl), by decide +kernel, by decide +kernel, by decide +kernel⟩, pw_in (pt_3 (List.mem_of_getElem? (i := 65) (by rfl))) (by rfl), pw_in (pt_3 (List.mem_of_getElem? (i := 66) (by rfl))) (by rfl)⟩
theorem my_X6_third : pw_YV yX6_third cX6_third 2 (some .int) 1 := ⟨⟨pw_in (pt_3 (List.mem_of_getElem? (i := 71) (by rfl))) (by rfl), pw_in (pt_1 (List.mem_of_getElem? (i := 2) (by rfl))) (by rfl), by decide +kernel, by decide +kernel, by decide +kernel⟩, pw_in (pt_3 (List.mem_of_getElem? (i := 69) (by rfl))) (by rfl), pw_in (pt_3 (List.mem_of_getElem? (i := 70) (by rfl))) (by rfl)⟩
theorem my_X1_evaluate : pw_YV yX1_evaluate cX1_evaluate 5 (some .int) 3 := ⟨⟨pw_in (pt_3 (List.mem_of_getElem? (i := 76) (by rfl))) (by rfl), pw_in (pt_1 (List.mem_of_getElem? (i := 14) (by rfl))) (by rfl), by decide +kernel, by decide +kernel, by decide +kernel⟩, pw_in (pt_3 (List.mem_of_getElem? (i := 75) (by rfl))) (by rfl), pw_in (pt_0 (List.mem_of_getElem? (i := 10) (by rfl))) (by rfl)⟩
theorem my_X8_isTerm : pw_YV yX8_isTerm cX8_isTerm 9 (some .boolean) 4 := ⟨⟨pw_in (pt_3 (List.mem_of_getElem? (i := 80) (by rfl))) (by rfl), pw_in (pt_1 (List.mem_of_getElem? (i := 15) (by rfl))) (by rfl), by decide +kernel, by decide +kernel, by decide +kernel⟩, pw_in (pt_3 (List.mem_of_getElem? (i := 78) (by rfl))) (by rfl), pw_in (pt_3 (List.mem_of_getElem? (i := 79) (by rfl))) (by rfl)⟩
theorem my_X8_startWith : pw_YV yX8_startWith cX8_startWith 2 none 1 := ⟨⟨pw_in (pt_3 (List.mem_of_getElem? (i := 84) (by rfl))) (by rfl), pw_in (pt_1 (List.mem_of_getElem? (i := 15) (by rfl))) (by rfl), by decide +kernel, by decide +kernel, by decide +kernel⟩, pw_in (pt_3 (List.mem_of_getElem? (i := 83) (by rfl))) (by rfl), pw_in (pt_0 (List.mem_of_getElem? (i := 11) (by rfl))) (by rfl)⟩
theorem my_X6_isVariable : pw_YV yX6_isVariable cX6_isVariable 2 (some .boolean) 1 := ⟨⟨pw_in (pt_3 (List.mem_of_getElem? (i := 88) (by rfl))) (by rfl), pw_in (pt_1 (List.mem_of_getElem? (i := 2) (by rfl))) (by rfl), by decide +kernel, by decide +kernel, by decide +kernel⟩, pw_in (pt_3 (List.mem_of_getElem? (i := 86) (by rfl))) (by rfl), pw_in (pt_3 (List.mem_of_getElem? (i := 87) (by rfl))) (by rfl)⟩
theorem my_X6_isSymbol : pw_YV yX6_isSymbol cX6_isSymbol 2 (some .boolean) 1 := ⟨⟨pw_in (pt_3 (List.mem_of_getElem? (i := 92) (by rfl))) (by rfl), pw_in (pt_1 (List.mem_of_getElem? (i := 2) (by rfl))) (by rfl), by decide +kernel, by decide +kernel, by decide +kernel⟩, pw_in (pt_3 (List.mem_of_getElem? (i := 90) (by rfl))) (by rfl), pw_in (pt_3 (List.mem_of_getElem? (i := 91) (by rfl))) (by rfl)⟩
theorem my_X6_isElement : pw_YV yX6_isElement cX6_isElement 5 (some .boolean) 2 := ⟨⟨pw_in (pt_3 (List.mem_of_getElem? (i := 96) (by rfl))) (by rfl), pw_in (pt_1 (List.mem_of_getElem? (i := 2) (by rfl))) (by rfl), by decide +kernel, by decide +kernel, by decide +kernel⟩, pw_in (pt_3 (List.mem_of_getElem? (i := 94) (by rfl))) (by rfl), pw_in (pt_3 (List.mem_of_getElem? (i := 95) (by rfl))) (by rfl)⟩
theorem my_X6_isQuoted : pw_YV yX6_isQuoted cX6_isQuoted 2 (some .boolean) 1 := ⟨⟨pw_in (pt_3 (List.mem_of_getElem? (i := 101) (by rfl))) (by rfl), pw_in (pt_1 (List.mem_of_getElem? (i := 2) (by rfl))) (by rfl), by decide +kernel, by decide +kernel, by decide +kernel⟩, pw_in (pt_3 (List.mem_of_getElem? (i := 99) (by rfl))) (by rfl), pw_in (pt_3 (List.mem_of_getElem? (i := 100) (by rfl))) (by rfl)⟩
theorem my_X8_takesOf : pw_YV yX8_takesOf cX8_takesOf 3 (some .int) 1 := ⟨⟨pw_in (pt_3 (List.mem_of_getElem? (i := 106) (by rfl))) (by rfl), pw_in (pt_1 (List.mem_of_getElem? (i := 15) (by rfl))) (by rfl), by decide +kernel, by decide +kernel, by decide +kernel⟩, pw_in (pt_3 (List.mem_of_getElem? (i := 105) (by rfl))) (by rfl), pw_in (pt_0 (List.mem_of_getElem? (i := 12) (by rfl))) (by rfl)⟩
theorem my_X4_find : pw_YV yX4_find cX4_find 4 (some (.object "LispMachine$Definition")) 1 := ⟨⟨pw_in (pt_3 (List.mem_of_getElem? (i := 112) (by rfl))) (by rfl), pw_in (pt_1 (List.mem_of_getElem? (i := 12) (by rfl))) (by rfl), by decide +kernel, by decide +kernel, by decide +kernel⟩, pw_in (pt_3 (List.mem_of_getElem? (i := 110) (by rfl))) (by rfl), pw_in (pt_3 (List.mem_of_getElem? (i := 111) (by rfl))) (by rfl)⟩
theorem my_X8_addTermsOf : pw_YV yX8_addTermsOf cX8_addTermsOf 3 (some .boolean) 1 := ⟨⟨pw_in (pt_3 (List.mem_of_getElem? (i := 118) (by rfl))) (by rfl), pw_in (pt_1 (List.mem_of_getElem? (i := 15) (by rfl))) (by rfl), by decide +kernel, by decide +kernel, by decide +kernel⟩, pw_in (pt_3 (List.mem_of_getElem? (i := 117) (by rfl))) (by rfl), pw_in (pt_0 (List.mem_of_getElem? (i := 13) (by rfl))) (by rfl)⟩
theorem my_X3_beginWith : pw_YV yX3_beginWith cX3_beginWith 3 none 2 := ⟨⟨pw_in (pt_3 (List.mem_of_getElem? (i := 122) (by rfl))) (by rfl), pw_in (pt_1 (List.mem_of_getElem? (i := 13) (by rfl))) (by rfl), by decide +kernel, by decide +kernel, by decide +kernel⟩, pw_in (pt_3 (List.mem_of_getElem? (i := 120) (by rfl))) (by rfl), pw_in (pt_3 (List.mem_of_getElem? (i := 121) (by rfl))) (by rfl)⟩
theorem my_X3_evaluateNext : pw_YV yX3_evaluateNext cX3_evaluateNext 3 none 2 := ⟨⟨pw_in (pt_3 (List.mem_of_getElem? (i := 126) (by rfl))) (by rfl), pw_in (pt_1 (List.mem_of_getElem? (i := 13) (by rfl))) (by rfl), by decide +kernel, by decide +kernel, by decide +kernel⟩, pw_in (pt_3 (List.mem_of_getElem? (i := 125) (by rfl))) (by rfl), pw_in (pt_0 (List.mem_of_getElem? (i := 14) (by rfl))) (by rfl)⟩
theorem my_X3_finish : pw_YV yX3_finish cX3_finish 3 (some .int) 0 := ⟨⟨pw_in (pt_3 (List.mem_of_getElem? (i := 130) (by rfl))) (by rfl), pw_in (pt_1 (List.mem_of_getElem? (i := 13) (by rfl))) (by rfl), by decide +kernel, by decide +kernel, by decide +kernel⟩, pw_in (pt_3 (List.mem_of_getElem? (i := 128) (by rfl))) (by rfl), pw_in (pt_3 (List.mem_of_getElem? (i := 129) (by rfl))) (by rfl)⟩
theorem my_X3_beginTerm : pw_YV yX3_beginTerm cX3_beginTerm 1 none 0 := ⟨⟨pw_in (pt_3 (List.mem_of_getElem? (i := 135) (by rfl))) (by rfl), pw_in (pt_1 (List.mem_of_getElem? (i := 13) (by rfl))) (by rfl), by decide +kernel, by decide +kernel, by decide +kernel⟩, pw_in (pt_3 (List.mem_of_getElem? (i := 134) (by rfl))) (by rfl), pw_in (pt_0 (List.mem_of_getElem? (i := 15) (by rfl))) (by rfl)⟩
theorem my_X3_boundValueOf : pw_YV yX3_boundValueOf cX3_boundValueOf 4 (some .int) 1 := ⟨⟨pw_in (pt_3 (List.mem_of_getElem? (i := 140) (by rfl))) (by rfl), pw_in (pt_1 (List.mem_of_getElem? (i := 13) (by rfl))) (by rfl), by decide +kernel, by decide +kernel, by decide +kernel⟩, pw_in (pt_3 (List.mem_of_getElem? (i := 139) (by rfl))) (by rfl), pw_in (pt_0 (List.mem_of_getElem? (i := 16) (by rfl))) (by rfl)⟩
theorem my_X3_argumentOf : pw_YV yX3_argumentOf cX3_argumentOf 5 (some .int) 2 := ⟨⟨pw_in (pt_3 (List.mem_of_getElem? (i := 147) (by rfl))) (by rfl), pw_in (pt_1 (List.mem_of_getElem? (i := 13) (by rfl))) (by rfl), by decide +kernel, by decide +kernel, by decide +kernel⟩, pw_in (pt_3 (List.mem_of_getElem? (i := 146) (by rfl))) (by rfl), pw_in (pt_0 (List.mem_of_getElem? (i := 17) (by rfl))) (by rfl)⟩
theorem my_X3_answer : pw_YV yX3_answer cX3_answer 2 none 1 := ⟨⟨pw_in (pt_3 (List.mem_of_getElem? (i := 151) (by rfl))) (by rfl), pw_in (pt_1 (List.mem_of_getElem? (i := 13) (by rfl))) (by rfl), by decide +kernel, by decide +kernel, by decide +kernel⟩, pw_in (pt_3 (List.mem_of_getElem? (i := 150) (by rfl))) (by rfl), pw_in (pt_0 (List.mem_of_getElem? (i := 18) (by rfl))) (by rfl)⟩
theorem my_X3_openCall : pw_YV yX3_openCall cX3_openCall 4 none 2 := ⟨⟨pw_in (pt_3 (List.mem_of_getElem? (i := 156) (by rfl))) (by rfl), pw_in (pt_1 (List.mem_of_getElem? (i := 13) (by rfl))) (by rfl), by decide +kernel, by decide +kernel, by decide +kernel⟩, pw_in (pt_3 (List.mem_of_getElem? (i := 155) (by rfl))) (by rfl), pw_in (pt_0 (List.mem_of_getElem? (i := 19) (by rfl))) (by rfl)⟩
theorem my_X0_init : pw_YI yX0_init cX0_init 1 0 := ⟨⟨pw_in (pt_3 (List.mem_of_getElem? (i := 160) (by rfl))) (by rfl), pw_in (pt_1 (List.mem_of_getElem? (i := 18) (by rfl))) (by rfl), by decide +kernel, by decide +kernel, by decide +kernel⟩, pw_in (pt_3 (List.mem_of_getElem? (i := 159) (by rfl))) (by rfl), rfl⟩
theorem my_X0_start : pw_YV yX0_start cX0_start 5 none 4 := ⟨⟨pw_in (pt_3 (List.mem_of_getElem? (i := 194) (by rfl))) (by rfl), pw_in (pt_1 (List.mem_of_getElem? (i := 18) (by rfl))) (by rfl), by decide +kernel, by decide +kernel, by decide +kernel⟩, pw_in (pt_3 (List.mem_of_getElem? (i := 192) (by rfl))) (by rfl), pw_in (pt_3 (List.mem_of_getElem? (i := 193) (by rfl))) (by rfl)⟩
theorem my_X3_handOverValue : pw_YV yX3_handOverValue cX3_handOverValue 3 none 1 := ⟨⟨pw_in (pt_3 (List.mem_of_getElem? (i := 198) (by rfl))) (by rfl), pw_in (pt_1 (List.mem_of_getElem? (i := 13) (by rfl))) (by rfl), by decide +kernel, by decide +kernel, by decide +kernel⟩, pw_in (pt_3 (List.mem_of_getElem? (i := 197) (by rfl))) (by rfl), pw_in (pt_0 (List.mem_of_getElem? (i := 20) (by rfl))) (by rfl)⟩
theorem my_X0_add : pw_YV yX0_add cX0_add 2 none 1 := ⟨⟨pw_in (pt_3 (List.mem_of_getElem? (i := 202) (by rfl))) (by rfl), pw_in (pt_1 (List.mem_of_getElem? (i := 18) (by rfl))) (by rfl), by decide +kernel, by decide +kernel, by decide +kernel⟩, pw_in (pt_3 (List.mem_of_getElem? (i := 200) (by rfl))) (by rfl), pw_in (pt_3 (List.mem_of_getElem? (i := 201) (by rfl))) (by rfl)⟩
theorem my_X3_applyBase : pw_YV yX3_applyBase cX3_applyBase 6 none 1 := ⟨⟨pw_in (pt_3 (List.mem_of_getElem? (i := 206) (by rfl))) (by rfl), pw_in (pt_1 (List.mem_of_getElem? (i := 13) (by rfl))) (by rfl), by decide +kernel, by decide +kernel, by decide +kernel⟩, pw_in (pt_3 (List.mem_of_getElem? (i := 205) (by rfl))) (by rfl), pw_in (pt_0 (List.mem_of_getElem? (i := 21) (by rfl))) (by rfl)⟩
theorem my_X3_truth : pw_YS yX3_truth cX3_truth 1 (some .int) 1 := ⟨⟨pw_in (pt_3 (List.mem_of_getElem? (i := 209) (by rfl))) (by rfl), pw_in (pt_1 (List.mem_of_getElem? (i := 13) (by rfl))) (by rfl), by decide +kernel, by decide +kernel, by decide +kernel⟩, pw_in (pt_3 (List.mem_of_getElem? (i := 208) (by rfl))) (by rfl)⟩
theorem my_X6_amount : pw_YV yX6_amount cX6_amount 2 (some .long) 1 := ⟨⟨pw_in (pt_3 (List.mem_of_getElem? (i := 214) (by rfl))) (by rfl), pw_in (pt_1 (List.mem_of_getElem? (i := 2) (by rfl))) (by rfl), by decide +kernel, by decide +kernel, by decide +kernel⟩, pw_in (pt_3 (List.mem_of_getElem? (i := 212) (by rfl))) (by rfl), pw_in (pt_3 (List.mem_of_getElem? (i := 213) (by rfl))) (by rfl)⟩
theorem my_X6_isNatural : pw_YV yX6_isNatural cX6_isNatural 2 (some .boolean) 1 := ⟨⟨pw_in (pt_3 (List.mem_of_getElem? (i := 218) (by rfl))) (by rfl), pw_in (pt_1 (List.mem_of_getElem? (i := 2) (by rfl))) (by rfl), by decide +kernel, by decide +kernel, by decide +kernel⟩, pw_in (pt_3 (List.mem_of_getElem? (i := 216) (by rfl))) (by rfl), pw_in (pt_3 (List.mem_of_getElem? (i := 217) (by rfl))) (by rfl)⟩
theorem my_J9_max_f86c9 : pw_YS yJ9_max_f86c9 cJ9_max_f86c9 4 (some .long) 2 := ⟨⟨pw_in (pt_3 (List.mem_of_getElem? (i := 223) (by rfl))) (by rfl), pw_in (pt_1 (List.mem_of_getElem? (i := 8) (by rfl))) (by rfl), by decide +kernel, by decide +kernel, by decide +kernel⟩, pw_in (pt_3 (List.mem_of_getElem? (i := 222) (by rfl))) (by rfl)⟩
theorem my_X1_boundVariables : pw_YV yX1_boundVariables cX1_boundVariables 8 (some .int) 1 := ⟨⟨pw_in (pt_3 (List.mem_of_getElem? (i := 230) (by rfl))) (by rfl), pw_in (pt_1 (List.mem_of_getElem? (i := 14) (by rfl))) (by rfl), by decide +kernel, by decide +kernel, by decide +kernel⟩, pw_in (pt_3 (List.mem_of_getElem? (i := 229) (by rfl))) (by rfl), pw_in (pt_0 (List.mem_of_getElem? (i := 22) (by rfl))) (by rfl)⟩
theorem my_X1_map : pw_YV yX1_map cX1_map 9 (some .int) 2 := ⟨⟨pw_in (pt_3 (List.mem_of_getElem? (i := 238) (by rfl))) (by rfl), pw_in (pt_1 (List.mem_of_getElem? (i := 14) (by rfl))) (by rfl), by decide +kernel, by decide +kernel, by decide +kernel⟩, pw_in (pt_3 (List.mem_of_getElem? (i := 237) (by rfl))) (by rfl), pw_in (pt_0 (List.mem_of_getElem? (i := 23) (by rfl))) (by rfl)⟩
theorem my_X1_isFunctionName : pw_YV yX1_isFunctionName cX1_isFunctionName 2 (some .boolean) 1 := ⟨⟨pw_in (pt_4 (List.mem_of_getElem? (i := 2) (by rfl))) (by rfl), pw_in (pt_1 (List.mem_of_getElem? (i := 14) (by rfl))) (by rfl), by decide +kernel, by decide +kernel, by decide +kernel⟩, pw_in (pt_4 (List.mem_of_getElem? (i := 1) (by rfl))) (by rfl), pw_in (pt_0 (List.mem_of_getElem? (i := 24) (by rfl))) (by rfl)⟩
theorem my_X3_beginCall : pw_YV yX3_beginCall cX3_beginCall 3 none 2 := ⟨⟨pw_in (pt_4 (List.mem_of_getElem? (i := 8) (by rfl))) (by rfl), pw_in (pt_1 (List.mem_of_getElem? (i := 13) (by rfl))) (by rfl), by decide +kernel, by decide +kernel, by decide +kernel⟩, pw_in (pt_4 (List.mem_of_getElem? (i := 6) (by rfl))) (by rfl), pw_in (pt_4 (List.mem_of_getElem? (i := 7) (by rfl))) (by rfl)⟩
theorem my_X1_reversed : pw_YV yX1_reversed cX1_reversed 6 (some .int) 2 := ⟨⟨pw_in (pt_4 (List.mem_of_getElem? (i := 12) (by rfl))) (by rfl), pw_in (pt_1 (List.mem_of_getElem? (i := 14) (by rfl))) (by rfl), by decide +kernel, by decide +kernel, by decide +kernel⟩, pw_in (pt_4 (List.mem_of_getElem? (i := 11) (by rfl))) (by rfl), pw_in (pt_0 (List.mem_of_getElem? (i := 25) (by rfl))) (by rfl)⟩
theorem my_X6_fourth : pw_YV yX6_fourth cX6_fourth 2 (some .int) 1 := ⟨⟨pw_in (pt_4 (List.mem_of_getElem? (i := 16) (by rfl))) (by rfl), pw_in (pt_1 (List.mem_of_getElem? (i := 2) (by rfl))) (by rfl), by decide +kernel, by decide +kernel, by decide +kernel⟩, pw_in (pt_4 (List.mem_of_getElem? (i := 14) (by rfl))) (by rfl), pw_in (pt_4 (List.mem_of_getElem? (i := 15) (by rfl))) (by rfl)⟩
theorem my_X1_define : pw_YV yX1_define cX1_define 4 (some .int) 3 := ⟨⟨pw_in (pt_4 (List.mem_of_getElem? (i := 20) (by rfl))) (by rfl), pw_in (pt_1 (List.mem_of_getElem? (i := 14) (by rfl))) (by rfl), by decide +kernel, by decide +kernel, by decide +kernel⟩, pw_in (pt_4 (List.mem_of_getElem? (i := 19) (by rfl))) (by rfl), pw_in (pt_0 (List.mem_of_getElem? (i := 26) (by rfl))) (by rfl)⟩
theorem my_X1_isDefinition : pw_YV yX1_isDefinition cX1_isDefinition 4 (some .boolean) 3 := ⟨⟨pw_in (pt_4 (List.mem_of_getElem? (i := 24) (by rfl))) (by rfl), pw_in (pt_1 (List.mem_of_getElem? (i := 14) (by rfl))) (by rfl), by decide +kernel, by decide +kernel, by decide +kernel⟩, pw_in (pt_4 (List.mem_of_getElem? (i := 23) (by rfl))) (by rfl), pw_in (pt_0 (List.mem_of_getElem? (i := 27) (by rfl))) (by rfl)⟩
theorem my_X1_areParameters : pw_YV yX1_areParameters cX1_areParameters 6 (some .boolean) 1 := ⟨⟨pw_in (pt_4 (List.mem_of_getElem? (i := 28) (by rfl))) (by rfl), pw_in (pt_1 (List.mem_of_getElem? (i := 14) (by rfl))) (by rfl), by decide +kernel, by decide +kernel, by decide +kernel⟩, pw_in (pt_4 (List.mem_of_getElem? (i := 27) (by rfl))) (by rfl), pw_in (pt_0 (List.mem_of_getElem? (i := 28) (by rfl))) (by rfl)⟩
theorem my_X4_isFull : pw_YV yX4_isFull cX4_isFull 1 (some .boolean) 0 := ⟨⟨pw_in (pt_4 (List.mem_of_getElem? (i := 32) (by rfl))) (by rfl), pw_in (pt_1 (List.mem_of_getElem? (i := 12) (by rfl))) (by rfl), by decide +kernel, by decide +kernel, by decide +kernel⟩, pw_in (pt_4 (List.mem_of_getElem? (i := 30) (by rfl))) (by rfl), pw_in (pt_4 (List.mem_of_getElem? (i := 31) (by rfl))) (by rfl)⟩
theorem my_X2_init : pw_YI yX2_init cX2_init 5 4 := ⟨⟨pw_in (pt_4 (List.mem_of_getElem? (i := 37) (by rfl))) (by rfl), pw_in (pt_1 (List.mem_of_getElem? (i := 19) (by rfl))) (by rfl), by decide +kernel, by decide +kernel, by decide +kernel⟩, pw_in (pt_4 (List.mem_of_getElem? (i := 36) (by rfl))) (by rfl), rfl⟩
theorem my_X4_add : pw_YV yX4_add cX4_add 2 none 1 := ⟨⟨pw_in (pt_4 (List.mem_of_getElem? (i := 64) (by rfl))) (by rfl), pw_in (pt_1 (List.mem_of_getElem? (i := 12) (by rfl))) (by rfl), by decide +kernel, by decide +kernel, by decide +kernel⟩, pw_in (pt_4 (List.mem_of_getElem? (i := 62) (by rfl))) (by rfl), pw_in (pt_4 (List.mem_of_getElem? (i := 63) (by rfl))) (by rfl)⟩
theorem my_X1_defineAnew : pw_YV yX1_defineAnew cX1_defineAnew 5 (some .int) 3 := ⟨⟨pw_in (pt_4 (List.mem_of_getElem? (i := 69) (by rfl))) (by rfl), pw_in (pt_1 (List.mem_of_getElem? (i := 14) (by rfl))) (by rfl), by decide +kernel, by decide +kernel, by decide +kernel⟩, pw_in (pt_4 (List.mem_of_getElem? (i := 68) (by rfl))) (by rfl), pw_in (pt_0 (List.mem_of_getElem? (i := 29) (by rfl))) (by rfl)⟩
theorem my_X1_undo : pw_YV yX1_undo cX1_undo 4 (some .int) 0 := ⟨⟨pw_in (pt_4 (List.mem_of_getElem? (i := 73) (by rfl))) (by rfl), pw_in (pt_1 (List.mem_of_getElem? (i := 14) (by rfl))) (by rfl), by decide +kernel, by decide +kernel, by decide +kernel⟩, pw_in (pt_4 (List.mem_of_getElem? (i := 72) (by rfl))) (by rfl), pw_in (pt_0 (List.mem_of_getElem? (i := 30) (by rfl))) (by rfl)⟩
theorem my_X4_at : pw_YV yX4_at cX4_at 2 (some (.object "LispMachine$Definition")) 1 := ⟨⟨pw_in (pt_4 (List.mem_of_getElem? (i := 77) (by rfl))) (by rfl), pw_in (pt_1 (List.mem_of_getElem? (i := 12) (by rfl))) (by rfl), by decide +kernel, by decide +kernel, by decide +kernel⟩, pw_in (pt_4 (List.mem_of_getElem? (i := 75) (by rfl))) (by rfl), pw_in (pt_4 (List.mem_of_getElem? (i := 76) (by rfl))) (by rfl)⟩
theorem my_X8_isCalled : pw_YV yX8_isCalled cX8_isCalled 4 (some .boolean) 2 := ⟨⟨pw_in (pt_4 (List.mem_of_getElem? (i := 81) (by rfl))) (by rfl), pw_in (pt_1 (List.mem_of_getElem? (i := 15) (by rfl))) (by rfl), by decide +kernel, by decide +kernel, by decide +kernel⟩, pw_in (pt_4 (List.mem_of_getElem? (i := 79) (by rfl))) (by rfl), pw_in (pt_4 (List.mem_of_getElem? (i := 80) (by rfl))) (by rfl)⟩
theorem my_X8_gather : pw_YV yX8_gather cX8_gather 3 none 1 := ⟨⟨pw_in (pt_4 (List.mem_of_getElem? (i := 85) (by rfl))) (by rfl), pw_in (pt_1 (List.mem_of_getElem? (i := 15) (by rfl))) (by rfl), by decide +kernel, by decide +kernel, by decide +kernel⟩, pw_in (pt_4 (List.mem_of_getElem? (i := 84) (by rfl))) (by rfl), pw_in (pt_0 (List.mem_of_getElem? (i := 31) (by rfl))) (by rfl)⟩
theorem my_X8_isCall : pw_YV yX8_isCall cX8_isCall 2 (some .boolean) 1 := ⟨⟨pw_in (pt_4 (List.mem_of_getElem? (i := 89) (by rfl))) (by rfl), pw_in (pt_1 (List.mem_of_getElem? (i := 15) (by rfl))) (by rfl), by decide +kernel, by decide +kernel, by decide +kernel⟩, pw_in (pt_4 (List.mem_of_getElem? (i := 88) (by rfl))) (by rfl), pw_in (pt_0 (List.mem_of_getElem? (i := 32) (by rfl))) (by rfl)⟩
theorem my_X4_removeLast : pw_YV yX4_removeLast cX4_removeLast 1 none 0 := ⟨⟨pw_in (pt_4 (List.mem_of_getElem? (i := 93) (by rfl))) (by rfl), pw_in (pt_1 (List.mem_of_getElem? (i := 12) (by rfl))) (by rfl), by decide +kernel, by decide +kernel, by decide +kernel⟩, pw_in (pt_4 (List.mem_of_getElem? (i := 91) (by rfl))) (by rfl), pw_in (pt_4 (List.mem_of_getElem? (i := 92) (by rfl))) (by rfl)⟩
theorem my_X1_show : pw_YV yX1_show cX1_show 4 (some .int) 1 := ⟨⟨pw_in (pt_4 (List.mem_of_getElem? (i := 97) (by rfl))) (by rfl), pw_in (pt_1 (List.mem_of_getElem? (i := 14) (by rfl))) (by rfl), by decide +kernel, by decide +kernel, by decide +kernel⟩, pw_in (pt_4 (List.mem_of_getElem? (i := 96) (by rfl))) (by rfl), pw_in (pt_0 (List.mem_of_getElem? (i := 33) (by rfl))) (by rfl)⟩
theorem my_X8_plain : pw_YV yX8_plain cX8_plain 6 (some .int) 1 := ⟨⟨pw_in (pt_4 (List.mem_of_getElem? (i := 101) (by rfl))) (by rfl), pw_in (pt_1 (List.mem_of_getElem? (i := 15) (by rfl))) (by rfl), by decide +kernel, by decide +kernel, by decide +kernel⟩, pw_in (pt_4 (List.mem_of_getElem? (i := 99) (by rfl))) (by rfl), pw_in (pt_4 (List.mem_of_getElem? (i := 100) (by rfl))) (by rfl)⟩
theorem my_X8_listOfParts : pw_YV yX8_listOfParts cX8_listOfParts 5 (some .int) 2 := ⟨⟨pw_in (pt_4 (List.mem_of_getElem? (i := 105) (by rfl))) (by rfl), pw_in (pt_1 (List.mem_of_getElem? (i := 15) (by rfl))) (by rfl), by decide +kernel, by decide +kernel, by decide +kernel⟩, pw_in (pt_4 (List.mem_of_getElem? (i := 104) (by rfl))) (by rfl), pw_in (pt_0 (List.mem_of_getElem? (i := 34) (by rfl))) (by rfl)⟩
theorem my_X8_isPlainConstant : pw_YV yX8_isPlainConstant cX8_isPlainConstant 2 (some .boolean) 1 := ⟨⟨pw_in (pt_4 (List.mem_of_getElem? (i := 111) (by rfl))) (by rfl), pw_in (pt_1 (List.mem_of_getElem? (i := 15) (by rfl))) (by rfl), by decide +kernel, by decide +kernel, by decide +kernel⟩, pw_in (pt_4 (List.mem_of_getElem? (i := 110) (by rfl))) (by rfl), pw_in (pt_0 (List.mem_of_getElem? (i := 35) (by rfl))) (by rfl)⟩
theorem my_X7_tell : pw_YV yX7_tell cX7_tell 4 none 1 := ⟨⟨pw_in (pt_4 (List.mem_of_getElem? (i := 116) (by rfl))) (by rfl), pw_in (pt_1 (List.mem_of_getElem? (i := 11) (by rfl))) (by rfl), by decide +kernel, by decide +kernel, by decide +kernel⟩, pw_in (pt_4 (List.mem_of_getElem? (i := 114) (by rfl))) (by rfl), pw_in (pt_4 (List.mem_of_getElem? (i := 115) (by rfl))) (by rfl)⟩
theorem my_X7_beginObject : pw_YV yX7_beginObject cX7_beginObject 2 (some .int) 1 := ⟨⟨pw_in (pt_4 (List.mem_of_getElem? (i := 120) (by rfl))) (by rfl), pw_in (pt_1 (List.mem_of_getElem? (i := 11) (by rfl))) (by rfl), by decide +kernel, by decide +kernel, by decide +kernel⟩, pw_in (pt_4 (List.mem_of_getElem? (i := 119) (by rfl))) (by rfl), pw_in (pt_0 (List.mem_of_getElem? (i := 36) (by rfl))) (by rfl)⟩
theorem my_X7_put : pw_YV yX7_put cX7_put 2 none 1 := ⟨⟨pw_in (pt_4 (List.mem_of_getElem? (i := 125) (by rfl))) (by rfl), pw_in (pt_1 (List.mem_of_getElem? (i := 11) (by rfl))) (by rfl), by decide +kernel, by decide +kernel, by decide +kernel⟩, pw_in (pt_4 (List.mem_of_getElem? (i := 124) (by rfl))) (by rfl), pw_in (pt_0 (List.mem_of_getElem? (i := 37) (by rfl))) (by rfl)⟩
theorem my_X7_beginRest : pw_YV yX7_beginRest cX7_beginRest 2 (some .int) 1 := ⟨⟨pw_in (pt_4 (List.mem_of_getElem? (i := 131) (by rfl))) (by rfl), pw_in (pt_1 (List.mem_of_getElem? (i := 11) (by rfl))) (by rfl), by decide +kernel, by decide +kernel, by decide +kernel⟩, pw_in (pt_4 (List.mem_of_getElem? (i := 130) (by rfl))) (by rfl), pw_in (pt_0 (List.mem_of_getElem? (i := 38) (by rfl))) (by rfl)⟩
theorem my_X7_putAtom : pw_YV yX7_putAtom cX7_putAtom 2 none 1 := ⟨⟨pw_in (pt_4 (List.mem_of_getElem? (i := 137) (by rfl))) (by rfl), pw_in (pt_1 (List.mem_of_getElem? (i := 11) (by rfl))) (by rfl), by decide +kernel, by decide +kernel, by decide +kernel⟩, pw_in (pt_4 (List.mem_of_getElem? (i := 136) (by rfl))) (by rfl), pw_in (pt_0 (List.mem_of_getElem? (i := 39) (by rfl))) (by rfl)⟩
theorem my_X7_putNatural : pw_YV yX7_putNatural cX7_putNatural 5 none 1 := ⟨⟨pw_in (pt_4 (List.mem_of_getElem? (i := 143) (by rfl))) (by rfl), pw_in (pt_1 (List.mem_of_getElem? (i := 11) (by rfl))) (by rfl), by decide +kernel, by decide +kernel, by decide +kernel⟩, pw_in (pt_4 (List.mem_of_getElem? (i := 142) (by rfl))) (by rfl), pw_in (pt_0 (List.mem_of_getElem? (i := 40) (by rfl))) (by rfl)⟩
theorem my_X6_spelling : pw_YV yX6_spelling cX6_spelling 2 (some .long) 1 := ⟨⟨pw_in (pt_4 (List.mem_of_getElem? (i := 150) (by rfl))) (by rfl), pw_in (pt_1 (List.mem_of_getElem? (i := 2) (by rfl))) (by rfl), by decide +kernel, by decide +kernel, by decide +kernel⟩, pw_in (pt_4 (List.mem_of_getElem? (i := 148) (by rfl))) (by rfl), pw_in (pt_4 (List.mem_of_getElem? (i := 149) (by rfl))) (by rfl)⟩
theorem my_X7_putSymbol : pw_YV yX7_putSymbol cX7_putSymbol 5 none 1 := ⟨⟨pw_in (pt_4 (List.mem_of_getElem? (i := 154) (by rfl))) (by rfl), pw_in (pt_1 (List.mem_of_getElem? (i := 11) (by rfl))) (by rfl), by decide +kernel, by decide +kernel, by decide +kernel⟩, pw_in (pt_4 (List.mem_of_getElem? (i := 153) (by rfl))) (by rfl), pw_in (pt_0 (List.mem_of_getElem? (i := 41) (by rfl))) (by rfl)⟩
theorem my_X7_goOn : pw_YV yX7_goOn cX7_goOn 2 (some .int) 0 := ⟨⟨pw_in (pt_4 (List.mem_of_getElem? (i := 162) (by rfl))) (by rfl), pw_in (pt_1 (List.mem_of_getElem? (i := 11) (by rfl))) (by rfl), by decide +kernel, by decide +kernel, by decide +kernel⟩, pw_in (pt_4 (List.mem_of_getElem? (i := 161) (by rfl))) (by rfl), pw_in (pt_0 (List.mem_of_getElem? (i := 42) (by rfl))) (by rfl)⟩
theorem my_X9_fault : pw_YV yX9_fault cX9_fault 2 (some .int) 1 := ⟨⟨pw_in (pt_4 (List.mem_of_getElem? (i := 166) (by rfl))) (by rfl), pw_in (pt_1 (List.mem_of_getElem? (i := 1) (by rfl))) (by rfl), by decide +kernel, by decide +kernel, by decide +kernel⟩, pw_in (pt_4 (List.mem_of_getElem? (i := 164) (by rfl))) (by rfl), pw_in (pt_4 (List.mem_of_getElem? (i := 165) (by rfl))) (by rfl)⟩
theorem my_X9_steps : pw_YV yX9_steps cX9_steps 1 (some .int) 0 := ⟨⟨pw_in (pt_4 (List.mem_of_getElem? (i := 170) (by rfl))) (by rfl), pw_in (pt_1 (List.mem_of_getElem? (i := 1) (by rfl))) (by rfl), by decide +kernel, by decide +kernel, by decide +kernel⟩, pw_in (pt_4 (List.mem_of_getElem? (i := 168) (by rfl))) (by rfl), pw_in (pt_4 (List.mem_of_getElem? (i := 169) (by rfl))) (by rfl)⟩
theorem my_X9_functions : pw_YV yX9_functions cX9_functions 1 (some .int) 0 := ⟨⟨pw_in (pt_4 (List.mem_of_getElem? (i := 174) (by rfl))) (by rfl), pw_in (pt_1 (List.mem_of_getElem? (i := 1) (by rfl))) (by rfl), by decide +kernel, by decide +kernel, by decide +kernel⟩, pw_in (pt_4 (List.mem_of_getElem? (i := 172) (by rfl))) (by rfl), pw_in (pt_4 (List.mem_of_getElem? (i := 173) (by rfl))) (by rfl)⟩
theorem my_X9_size : pw_YV yX9_size cX9_size 1 (some .int) 0 := ⟨⟨pw_in (pt_4 (List.mem_of_getElem? (i := 178) (by rfl))) (by rfl), pw_in (pt_1 (List.mem_of_getElem? (i := 1) (by rfl))) (by rfl), by decide +kernel, by decide +kernel, by decide +kernel⟩, pw_in (pt_4 (List.mem_of_getElem? (i := 176) (by rfl))) (by rfl), pw_in (pt_4 (List.mem_of_getElem? (i := 177) (by rfl))) (by rfl)⟩
theorem my_X9_letter : pw_YV yX9_letter cX9_letter 2 (some .int) 1 := ⟨⟨pw_in (pt_4 (List.mem_of_getElem? (i := 182) (by rfl))) (by rfl), pw_in (pt_1 (List.mem_of_getElem? (i := 1) (by rfl))) (by rfl), by decide +kernel, by decide +kernel, by decide +kernel⟩, pw_in (pt_4 (List.mem_of_getElem? (i := 180) (by rfl))) (by rfl), pw_in (pt_4 (List.mem_of_getElem? (i := 181) (by rfl))) (by rfl)⟩
theorem my_X7_characterAt : pw_YV yX7_characterAt cX7_characterAt 2 (some .int) 1 := ⟨⟨pw_in (pt_4 (List.mem_of_getElem? (i := 186) (by rfl))) (by rfl), pw_in (pt_1 (List.mem_of_getElem? (i := 11) (by rfl))) (by rfl), by decide +kernel, by decide +kernel, by decide +kernel⟩, pw_in (pt_4 (List.mem_of_getElem? (i := 184) (by rfl))) (by rfl), pw_in (pt_4 (List.mem_of_getElem? (i := 185) (by rfl))) (by rfl)⟩
theorem my_X10_init : pw_YI yX10_init cX10_init 2 0 := ⟨⟨pw_in (pt_4 (List.mem_of_getElem? (i := 191) (by rfl))) (by rfl), pw_in (pt_1 (List.mem_of_getElem? (i := 16) (by rfl))) (by rfl), by decide +kernel, by decide +kernel, by decide +kernel⟩, pw_in (pt_4 (List.mem_of_getElem? (i := 190) (by rfl))) (by rfl), rfl⟩
theorem my_X10_said : pw_YV yX10_said cX10_said 10 none 8 := ⟨⟨pw_in (pt_4 (List.mem_of_getElem? (i := 198) (by rfl))) (by rfl), pw_in (pt_1 (List.mem_of_getElem? (i := 16) (by rfl))) (by rfl), by decide +kernel, by decide +kernel, by decide +kernel⟩, pw_in (pt_4 (List.mem_of_getElem? (i := 197) (by rfl))) (by rfl), pw_in (pt_0 (List.mem_of_getElem? (i := 43) (by rfl))) (by rfl)⟩
theorem my_X10_spell : pw_YV yX10_spell cX10_spell 2 none 1 := ⟨⟨pw_in (pt_4 (List.mem_of_getElem? (i := 202) (by rfl))) (by rfl), pw_in (pt_1 (List.mem_of_getElem? (i := 16) (by rfl))) (by rfl), by decide +kernel, by decide +kernel, by decide +kernel⟩, pw_in (pt_4 (List.mem_of_getElem? (i := 201) (by rfl))) (by rfl), pw_in (pt_0 (List.mem_of_getElem? (i := 44) (by rfl))) (by rfl)⟩
theorem my_X10_symbol : pw_YV yX10_symbol cX10_symbol 3 (some .int) 0 := ⟨⟨pw_in (pt_4 (List.mem_of_getElem? (i := 206) (by rfl))) (by rfl), pw_in (pt_1 (List.mem_of_getElem? (i := 16) (by rfl))) (by rfl), by decide +kernel, by decide +kernel, by decide +kernel⟩, pw_in (pt_4 (List.mem_of_getElem? (i := 205) (by rfl))) (by rfl), pw_in (pt_0 (List.mem_of_getElem? (i := 45) (by rfl))) (by rfl)⟩
theorem my_X10_spelled : pw_YV yX10_spelled cX10_spelled 6 (some .int) 3 := ⟨⟨pw_in (pt_4 (List.mem_of_getElem? (i := 210) (by rfl))) (by rfl), pw_in (pt_1 (List.mem_of_getElem? (i := 16) (by rfl))) (by rfl), by decide +kernel, by decide +kernel, by decide +kernel⟩, pw_in (pt_4 (List.mem_of_getElem? (i := 209) (by rfl))) (by rfl), pw_in (pt_0 (List.mem_of_getElem? (i := 46) (by rfl))) (by rfl)⟩
theorem my_X10_isWord : pw_YV yX10_isWord cX10_isWord 4 (some .boolean) 1 := ⟨⟨pw_in (pt_4 (List.mem_of_getElem? (i := 214) (by rfl))) (by rfl), pw_in (pt_1 (List.mem_of_getElem? (i := 16) (by rfl))) (by rfl), by decide +kernel, by decide +kernel, by decide +kernel⟩, pw_in (pt_4 (List.mem_of_getElem? (i := 213) (by rfl))) (by rfl), pw_in (pt_0 (List.mem_of_getElem? (i := 47) (by rfl))) (by rfl)⟩
theorem my_X10_added : pw_YV yX10_added cX10_added 4 (some .int) 3 := ⟨⟨pw_in (pt_4 (List.mem_of_getElem? (i := 218) (by rfl))) (by rfl), pw_in (pt_1 (List.mem_of_getElem? (i := 16) (by rfl))) (by rfl), by decide +kernel, by decide +kernel, by decide +kernel⟩, pw_in (pt_4 (List.mem_of_getElem? (i := 217) (by rfl))) (by rfl), pw_in (pt_0 (List.mem_of_getElem? (i := 48) (by rfl))) (by rfl)⟩
theorem my_X10_feed : pw_YV yX10_feed cX10_feed 7 none 5 := ⟨⟨pw_in (pt_5 (List.mem_of_getElem? (i := 194) (by rfl))) (by rfl), pw_in (pt_1 (List.mem_of_getElem? (i := 16) (by rfl))) (by rfl), by decide +kernel, by decide +kernel, by decide +kernel⟩, pw_in (pt_5 (List.mem_of_getElem? (i := 192) (by rfl))) (by rfl), pw_in (pt_5 (List.mem_of_getElem? (i := 193) (by rfl))) (by rfl)⟩
theorem my_X10_end : pw_YV yX10_end cX10_end 3 (some .int) 1 := ⟨⟨pw_in (pt_5 (List.mem_of_getElem? (i := 198) (by rfl))) (by rfl), pw_in (pt_1 (List.mem_of_getElem? (i := 16) (by rfl))) (by rfl), by decide +kernel, by decide +kernel, by decide +kernel⟩, pw_in (pt_5 (List.mem_of_getElem? (i := 196) (by rfl))) (by rfl), pw_in (pt_5 (List.mem_of_getElem? (i := 197) (by rfl))) (by rfl)⟩
theorem my_X10_fuel : pw_YV yX10_fuel cX10_fuel 3 (some .int) 1 := ⟨⟨pw_in (pt_5 (List.mem_of_getElem? (i := 202) (by rfl))) (by rfl), pw_in (pt_1 (List.mem_of_getElem? (i := 16) (by rfl))) (by rfl), by decide +kernel, by decide +kernel, by decide +kernel⟩, pw_in (pt_5 (List.mem_of_getElem? (i := 200) (by rfl))) (by rfl), pw_in (pt_5 (List.mem_of_getElem? (i := 201) (by rfl))) (by rfl)⟩
theorem my_X10_run : pw_YV yX10_run cX10_run 3 (some .int) 0 := ⟨⟨pw_in (pt_5 (List.mem_of_getElem? (i := 206) (by rfl))) (by rfl), pw_in (pt_1 (List.mem_of_getElem? (i := 16) (by rfl))) (by rfl), by decide +kernel, by decide +kernel, by decide +kernel⟩, pw_in (pt_5 (List.mem_of_getElem? (i := 204) (by rfl))) (by rfl), pw_in (pt_5 (List.mem_of_getElem? (i := 205) (by rfl))) (by rfl)⟩
theorem my_X10_reads : pw_YV yX10_reads cX10_reads 2 (some .boolean) 0 := ⟨⟨pw_in (pt_5 (List.mem_of_getElem? (i := 210) (by rfl))) (by rfl), pw_in (pt_1 (List.mem_of_getElem? (i := 16) (by rfl))) (by rfl), by decide +kernel, by decide +kernel, by decide +kernel⟩, pw_in (pt_5 (List.mem_of_getElem? (i := 209) (by rfl))) (by rfl), pw_in (pt_0 (List.mem_of_getElem? (i := 49) (by rfl))) (by rfl)⟩
theorem my_X10_skip : pw_YV yX10_skip cX10_skip 2 none 0 := ⟨⟨pw_in (pt_5 (List.mem_of_getElem? (i := 214) (by rfl))) (by rfl), pw_in (pt_1 (List.mem_of_getElem? (i := 16) (by rfl))) (by rfl), by decide +kernel, by decide +kernel, by decide +kernel⟩, pw_in (pt_5 (List.mem_of_getElem? (i := 213) (by rfl))) (by rfl), pw_in (pt_0 (List.mem_of_getElem? (i := 50) (by rfl))) (by rfl)⟩
theorem my_X10_readWord : pw_YV yX10_readWord cX10_readWord 6 none 1 := ⟨⟨pw_in (pt_5 (List.mem_of_getElem? (i := 218) (by rfl))) (by rfl), pw_in (pt_1 (List.mem_of_getElem? (i := 16) (by rfl))) (by rfl), by decide +kernel, by decide +kernel, by decide +kernel⟩, pw_in (pt_5 (List.mem_of_getElem? (i := 217) (by rfl))) (by rfl), pw_in (pt_0 (List.mem_of_getElem? (i := 51) (by rfl))) (by rfl)⟩
theorem my_X10_mayBegin : pw_YV yX10_mayBegin cX10_mayBegin 1 (some .boolean) 0 := ⟨⟨pw_in (pt_5 (List.mem_of_getElem? (i := 222) (by rfl))) (by rfl), pw_in (pt_1 (List.mem_of_getElem? (i := 16) (by rfl))) (by rfl), by decide +kernel, by decide +kernel, by decide +kernel⟩, pw_in (pt_5 (List.mem_of_getElem? (i := 221) (by rfl))) (by rfl), pw_in (pt_0 (List.mem_of_getElem? (i := 52) (by rfl))) (by rfl)⟩
theorem my_X10_bad : pw_YV yX10_bad cX10_bad 3 none 2 := ⟨⟨pw_in (pt_5 (List.mem_of_getElem? (i := 226) (by rfl))) (by rfl), pw_in (pt_1 (List.mem_of_getElem? (i := 16) (by rfl))) (by rfl), by decide +kernel, by decide +kernel, by decide +kernel⟩, pw_in (pt_5 (List.mem_of_getElem? (i := 225) (by rfl))) (by rfl), pw_in (pt_0 (List.mem_of_getElem? (i := 53) (by rfl))) (by rfl)⟩
theorem my_X10_begin : pw_YV yX10_begin cX10_begin 2 none 1 := ⟨⟨pw_in (pt_5 (List.mem_of_getElem? (i := 230) (by rfl))) (by rfl), pw_in (pt_1 (List.mem_of_getElem? (i := 16) (by rfl))) (by rfl), by decide +kernel, by decide +kernel, by decide +kernel⟩, pw_in (pt_5 (List.mem_of_getElem? (i := 229) (by rfl))) (by rfl), pw_in (pt_0 (List.mem_of_getElem? (i := 54) (by rfl))) (by rfl)⟩
theorem my_X10_isInList : pw_YV yX10_isInList cX10_isInList 1 (some .boolean) 0 := ⟨⟨pw_in (pt_5 (List.mem_of_getElem? (i := 234) (by rfl))) (by rfl), pw_in (pt_1 (List.mem_of_getElem? (i := 16) (by rfl))) (by rfl), by decide +kernel, by decide +kernel, by decide +kernel⟩, pw_in (pt_5 (List.mem_of_getElem? (i := 233) (by rfl))) (by rfl), pw_in (pt_0 (List.mem_of_getElem? (i := 55) (by rfl))) (by rfl)⟩
theorem my_X10_close : pw_YV yX10_close cX10_close 3 none 0 := ⟨⟨pw_in (pt_5 (List.mem_of_getElem? (i := 238) (by rfl))) (by rfl), pw_in (pt_1 (List.mem_of_getElem? (i := 16) (by rfl))) (by rfl), by decide +kernel, by decide +kernel, by decide +kernel⟩, pw_in (pt_5 (List.mem_of_getElem? (i := 237) (by rfl))) (by rfl), pw_in (pt_0 (List.mem_of_getElem? (i := 56) (by rfl))) (by rfl)⟩
theorem my_X10_pair : pw_YV yX10_pair cX10_pair 5 (some .int) 2 := ⟨⟨pw_in (pt_6 (List.mem_of_getElem? (i := 2) (by rfl))) (by rfl), pw_in (pt_1 (List.mem_of_getElem? (i := 16) (by rfl))) (by rfl), by decide +kernel, by decide +kernel, by decide +kernel⟩, pw_in (pt_6 (List.mem_of_getElem? (i := 1) (by rfl))) (by rfl), pw_in (pt_0 (List.mem_of_getElem? (i := 57) (by rfl))) (by rfl)⟩
theorem my_X10_slot : pw_YS yX10_slot cX10_slot 2 (some .int) 2 := ⟨⟨pw_in (pt_6 (List.mem_of_getElem? (i := 5) (by rfl))) (by rfl), pw_in (pt_1 (List.mem_of_getElem? (i := 16) (by rfl))) (by rfl), by decide +kernel, by decide +kernel, by decide +kernel⟩, pw_in (pt_6 (List.mem_of_getElem? (i := 4) (by rfl))) (by rfl)⟩
theorem my_X10_deliver : pw_YV yX10_deliver cX10_deliver 3 none 1 := ⟨⟨pw_in (pt_6 (List.mem_of_getElem? (i := 10) (by rfl))) (by rfl), pw_in (pt_1 (List.mem_of_getElem? (i := 16) (by rfl))) (by rfl), by decide +kernel, by decide +kernel, by decide +kernel⟩, pw_in (pt_6 (List.mem_of_getElem? (i := 9) (by rfl))) (by rfl), pw_in (pt_0 (List.mem_of_getElem? (i := 58) (by rfl))) (by rfl)⟩
theorem my_X10_list2 : pw_YV yX10_list2 cX10_list2 3 (some .int) 2 := ⟨⟨pw_in (pt_6 (List.mem_of_getElem? (i := 14) (by rfl))) (by rfl), pw_in (pt_1 (List.mem_of_getElem? (i := 16) (by rfl))) (by rfl), by decide +kernel, by decide +kernel, by decide +kernel⟩, pw_in (pt_6 (List.mem_of_getElem? (i := 13) (by rfl))) (by rfl), pw_in (pt_0 (List.mem_of_getElem? (i := 59) (by rfl))) (by rfl)⟩
theorem my_X10_list1 : pw_YV yX10_list1 cX10_list1 2 (some .int) 1 := ⟨⟨pw_in (pt_6 (List.mem_of_getElem? (i := 18) (by rfl))) (by rfl), pw_in (pt_1 (List.mem_of_getElem? (i := 16) (by rfl))) (by rfl), by decide +kernel, by decide +kernel, by decide +kernel⟩, pw_in (pt_6 (List.mem_of_getElem? (i := 17) (by rfl))) (by rfl), pw_in (pt_0 (List.mem_of_getElem? (i := 60) (by rfl))) (by rfl)⟩
theorem my_X10_isAtom : pw_YS yX10_isAtom cX10_isAtom 1 (some .boolean) 1 := ⟨⟨pw_in (pt_6 (List.mem_of_getElem? (i := 21) (by rfl))) (by rfl), pw_in (pt_1 (List.mem_of_getElem? (i := 16) (by rfl))) (by rfl), by decide +kernel, by decide +kernel, by decide +kernel⟩, pw_in (pt_6 (List.mem_of_getElem? (i := 20) (by rfl))) (by rfl)⟩
theorem my_X10_isDigit : pw_YS yX10_isDigit cX10_isDigit 1 (some .boolean) 1 := ⟨⟨pw_in (pt_6 (List.mem_of_getElem? (i := 24) (by rfl))) (by rfl), pw_in (pt_1 (List.mem_of_getElem? (i := 16) (by rfl))) (by rfl), by decide +kernel, by decide +kernel, by decide +kernel⟩, pw_in (pt_6 (List.mem_of_getElem? (i := 23) (by rfl))) (by rfl)⟩
theorem my_X10_atom : pw_YV yX10_atom cX10_atom 7 (some .int) 2 := ⟨⟨pw_in (pt_6 (List.mem_of_getElem? (i := 28) (by rfl))) (by rfl), pw_in (pt_1 (List.mem_of_getElem? (i := 16) (by rfl))) (by rfl), by decide +kernel, by decide +kernel, by decide +kernel⟩, pw_in (pt_6 (List.mem_of_getElem? (i := 27) (by rfl))) (by rfl), pw_in (pt_0 (List.mem_of_getElem? (i := 61) (by rfl))) (by rfl)⟩
theorem my_X10_natural : pw_YV yX10_natural cX10_natural 5 (some .int) 1 := ⟨⟨pw_in (pt_6 (List.mem_of_getElem? (i := 35) (by rfl))) (by rfl), pw_in (pt_1 (List.mem_of_getElem? (i := 16) (by rfl))) (by rfl), by decide +kernel, by decide +kernel, by decide +kernel⟩, pw_in (pt_6 (List.mem_of_getElem? (i := 34) (by rfl))) (by rfl), pw_in (pt_0 (List.mem_of_getElem? (i := 62) (by rfl))) (by rfl)⟩
theorem my_X10_command : pw_YV yX10_command cX10_command 2 (some .int) 1 := ⟨⟨pw_in (pt_6 (List.mem_of_getElem? (i := 39) (by rfl))) (by rfl), pw_in (pt_1 (List.mem_of_getElem? (i := 16) (by rfl))) (by rfl), by decide +kernel, by decide +kernel, by decide +kernel⟩, pw_in (pt_6 (List.mem_of_getElem? (i := 38) (by rfl))) (by rfl), pw_in (pt_0 (List.mem_of_getElem? (i := 63) (by rfl))) (by rfl)⟩
theorem my_X10_isPair : pw_YV yX10_isPair cX10_isPair 2 (some .boolean) 1 := ⟨⟨pw_in (pt_6 (List.mem_of_getElem? (i := 43) (by rfl))) (by rfl), pw_in (pt_1 (List.mem_of_getElem? (i := 16) (by rfl))) (by rfl), by decide +kernel, by decide +kernel, by decide +kernel⟩, pw_in (pt_6 (List.mem_of_getElem? (i := 42) (by rfl))) (by rfl), pw_in (pt_0 (List.mem_of_getElem? (i := 64) (by rfl))) (by rfl)⟩
theorem my_X10_eval : pw_YV yX10_eval cX10_eval 3 (some .int) 1 := ⟨⟨pw_in (pt_6 (List.mem_of_getElem? (i := 47) (by rfl))) (by rfl), pw_in (pt_1 (List.mem_of_getElem? (i := 16) (by rfl))) (by rfl), by decide +kernel, by decide +kernel, by decide +kernel⟩, pw_in (pt_6 (List.mem_of_getElem? (i := 46) (by rfl))) (by rfl), pw_in (pt_0 (List.mem_of_getElem? (i := 65) (by rfl))) (by rfl)⟩
theorem my_X10_lengthOf : pw_YV yX10_lengthOf cX10_lengthOf 4 (some .int) 1 := ⟨⟨pw_in (pt_6 (List.mem_of_getElem? (i := 51) (by rfl))) (by rfl), pw_in (pt_1 (List.mem_of_getElem? (i := 16) (by rfl))) (by rfl), by decide +kernel, by decide +kernel, by decide +kernel⟩, pw_in (pt_6 (List.mem_of_getElem? (i := 50) (by rfl))) (by rfl), pw_in (pt_0 (List.mem_of_getElem? (i := 66) (by rfl))) (by rfl)⟩
theorem my_X10_nth : pw_YV yX10_nth cX10_nth 5 (some .int) 2 := ⟨⟨pw_in (pt_6 (List.mem_of_getElem? (i := 55) (by rfl))) (by rfl), pw_in (pt_1 (List.mem_of_getElem? (i := 16) (by rfl))) (by rfl), by decide +kernel, by decide +kernel, by decide +kernel⟩, pw_in (pt_6 (List.mem_of_getElem? (i := 54) (by rfl))) (by rfl), pw_in (pt_0 (List.mem_of_getElem? (i := 67) (by rfl))) (by rfl)⟩
theorem my_X10_termOf : pw_YV yX10_termOf cX10_termOf 7 (some .int) 1 := ⟨⟨pw_in (pt_6 (List.mem_of_getElem? (i := 59) (by rfl))) (by rfl), pw_in (pt_1 (List.mem_of_getElem? (i := 16) (by rfl))) (by rfl), by decide +kernel, by decide +kernel, by decide +kernel⟩, pw_in (pt_6 (List.mem_of_getElem? (i := 58) (by rfl))) (by rfl), pw_in (pt_0 (List.mem_of_getElem? (i := 68) (by rfl))) (by rfl)⟩
theorem my_X10_beginTerm : pw_YV yX10_beginTerm cX10_beginTerm 3 (some .boolean) 1 := ⟨⟨pw_in (pt_6 (List.mem_of_getElem? (i := 63) (by rfl))) (by rfl), pw_in (pt_1 (List.mem_of_getElem? (i := 16) (by rfl))) (by rfl), by decide +kernel, by decide +kernel, by decide +kernel⟩, pw_in (pt_6 (List.mem_of_getElem? (i := 62) (by rfl))) (by rfl), pw_in (pt_0 (List.mem_of_getElem? (i := 69) (by rfl))) (by rfl)⟩
theorem my_X10_build : pw_YV yX10_build cX10_build 2 none 1 := ⟨⟨pw_in (pt_6 (List.mem_of_getElem? (i := 67) (by rfl))) (by rfl), pw_in (pt_1 (List.mem_of_getElem? (i := 16) (by rfl))) (by rfl), by decide +kernel, by decide +kernel, by decide +kernel⟩, pw_in (pt_6 (List.mem_of_getElem? (i := 66) (by rfl))) (by rfl), pw_in (pt_0 (List.mem_of_getElem? (i := 70) (by rfl))) (by rfl)⟩
theorem my_X10_isQuoted : pw_YV yX10_isQuoted cX10_isQuoted 2 (some .boolean) 1 := ⟨⟨pw_in (pt_6 (List.mem_of_getElem? (i := 71) (by rfl))) (by rfl), pw_in (pt_1 (List.mem_of_getElem? (i := 16) (by rfl))) (by rfl), by decide +kernel, by decide +kernel, by decide +kernel⟩, pw_in (pt_6 (List.mem_of_getElem? (i := 70) (by rfl))) (by rfl), pw_in (pt_0 (List.mem_of_getElem? (i := 71) (by rfl))) (by rfl)⟩
theorem my_X10_constantOf : pw_YV yX10_constantOf cX10_constantOf 2 (some .int) 1 := ⟨⟨pw_in (pt_6 (List.mem_of_getElem? (i := 75) (by rfl))) (by rfl), pw_in (pt_1 (List.mem_of_getElem? (i := 16) (by rfl))) (by rfl), by decide +kernel, by decide +kernel, by decide +kernel⟩, pw_in (pt_6 (List.mem_of_getElem? (i := 74) (by rfl))) (by rfl), pw_in (pt_0 (List.mem_of_getElem? (i := 72) (by rfl))) (by rfl)⟩
theorem my_X10_isNatural : pw_YV yX10_isNatural cX10_isNatural 2 (some .boolean) 1 := ⟨⟨pw_in (pt_6 (List.mem_of_getElem? (i := 79) (by rfl))) (by rfl), pw_in (pt_1 (List.mem_of_getElem? (i := 16) (by rfl))) (by rfl), by decide +kernel, by decide +kernel, by decide +kernel⟩, pw_in (pt_6 (List.mem_of_getElem? (i := 78) (by rfl))) (by rfl), pw_in (pt_0 (List.mem_of_getElem? (i := 73) (by rfl))) (by rfl)⟩
theorem my_X10_isSymbol : pw_YV yX10_isSymbol cX10_isSymbol 2 (some .boolean) 1 := ⟨⟨pw_in (pt_6 (List.mem_of_getElem? (i := 83) (by rfl))) (by rfl), pw_in (pt_1 (List.mem_of_getElem? (i := 16) (by rfl))) (by rfl), by decide +kernel, by decide +kernel, by decide +kernel⟩, pw_in (pt_6 (List.mem_of_getElem? (i := 82) (by rfl))) (by rfl), pw_in (pt_0 (List.mem_of_getElem? (i := 74) (by rfl))) (by rfl)⟩
theorem my_X10_functionOf : pw_YV yX10_functionOf cX10_functionOf 3 (some .int) 1 := ⟨⟨pw_in (pt_6 (List.mem_of_getElem? (i := 87) (by rfl))) (by rfl), pw_in (pt_1 (List.mem_of_getElem? (i := 16) (by rfl))) (by rfl), by decide +kernel, by decide +kernel, by decide +kernel⟩, pw_in (pt_6 (List.mem_of_getElem? (i := 86) (by rfl))) (by rfl), pw_in (pt_0 (List.mem_of_getElem? (i := 75) (by rfl))) (by rfl)⟩
theorem my_X10_manyOf : pw_YV yX10_manyOf cX10_manyOf 2 (some .int) 1 := ⟨⟨pw_in (pt_6 (List.mem_of_getElem? (i := 91) (by rfl))) (by rfl), pw_in (pt_1 (List.mem_of_getElem? (i := 16) (by rfl))) (by rfl), by decide +kernel, by decide +kernel, by decide +kernel⟩, pw_in (pt_6 (List.mem_of_getElem? (i := 90) (by rfl))) (by rfl), pw_in (pt_0 (List.mem_of_getElem? (i := 76) (by rfl))) (by rfl)⟩
theorem my_X10_openCall : pw_YV yX10_openCall cX10_openCall 2 none 1 := ⟨⟨pw_in (pt_6 (List.mem_of_getElem? (i := 95) (by rfl))) (by rfl), pw_in (pt_1 (List.mem_of_getElem? (i := 16) (by rfl))) (by rfl), by decide +kernel, by decide +kernel, by decide +kernel⟩, pw_in (pt_6 (List.mem_of_getElem? (i := 94) (by rfl))) (by rfl), pw_in (pt_0 (List.mem_of_getElem? (i := 77) (by rfl))) (by rfl)⟩
theorem my_X10_callFrom : pw_YV yX10_callFrom cX10_callFrom 6 (some .int) 2 := ⟨⟨pw_in (pt_6 (List.mem_of_getElem? (i := 99) (by rfl))) (by rfl), pw_in (pt_1 (List.mem_of_getElem? (i := 16) (by rfl))) (by rfl), by decide +kernel, by decide +kernel, by decide +kernel⟩, pw_in (pt_6 (List.mem_of_getElem? (i := 98) (by rfl))) (by rfl), pw_in (pt_0 (List.mem_of_getElem? (i := 78) (by rfl))) (by rfl)⟩
theorem my_X10_sizeOf : pw_YV yX10_sizeOf cX10_sizeOf 2 (some .int) 1 := ⟨⟨pw_in (pt_6 (List.mem_of_getElem? (i := 103) (by rfl))) (by rfl), pw_in (pt_1 (List.mem_of_getElem? (i := 16) (by rfl))) (by rfl), by decide +kernel, by decide +kernel, by decide +kernel⟩, pw_in (pt_6 (List.mem_of_getElem? (i := 102) (by rfl))) (by rfl), pw_in (pt_0 (List.mem_of_getElem? (i := 79) (by rfl))) (by rfl)⟩
theorem my_X10_isCall : pw_YV yX10_isCall cX10_isCall 2 (some .boolean) 1 := ⟨⟨pw_in (pt_6 (List.mem_of_getElem? (i := 107) (by rfl))) (by rfl), pw_in (pt_1 (List.mem_of_getElem? (i := 16) (by rfl))) (by rfl), by decide +kernel, by decide +kernel, by decide +kernel⟩, pw_in (pt_6 (List.mem_of_getElem? (i := 106) (by rfl))) (by rfl), pw_in (pt_0 (List.mem_of_getElem? (i := 80) (by rfl))) (by rfl)⟩
theorem my_X10_hasOnly : pw_YV yX10_hasOnly cX10_hasOnly 4 (some .boolean) 2 := ⟨⟨pw_in (pt_6 (List.mem_of_getElem? (i := 111) (by rfl))) (by rfl), pw_in (pt_1 (List.mem_of_getElem? (i := 16) (by rfl))) (by rfl), by decide +kernel, by decide +kernel, by decide +kernel⟩, pw_in (pt_6 (List.mem_of_getElem? (i := 110) (by rfl))) (by rfl), pw_in (pt_0 (List.mem_of_getElem? (i := 81) (by rfl))) (by rfl)⟩
theorem my_X10_variablesOf : pw_YV yX10_variablesOf cX10_variablesOf 5 none 1 := ⟨⟨pw_in (pt_6 (List.mem_of_getElem? (i := 115) (by rfl))) (by rfl), pw_in (pt_1 (List.mem_of_getElem? (i := 16) (by rfl))) (by rfl), by decide +kernel, by decide +kernel, by decide +kernel⟩, pw_in (pt_6 (List.mem_of_getElem? (i := 114) (by rfl))) (by rfl), pw_in (pt_0 (List.mem_of_getElem? (i := 82) (by rfl))) (by rfl)⟩
theorem my_X10_walkTo : pw_YV yX10_walkTo cX10_walkTo 2 none 1 := ⟨⟨pw_in (pt_6 (List.mem_of_getElem? (i := 119) (by rfl))) (by rfl), pw_in (pt_1 (List.mem_of_getElem? (i := 16) (by rfl))) (by rfl), by decide +kernel, by decide +kernel, by decide +kernel⟩, pw_in (pt_6 (List.mem_of_getElem? (i := 118) (by rfl))) (by rfl), pw_in (pt_0 (List.mem_of_getElem? (i := 83) (by rfl))) (by rfl)⟩
theorem my_X10_walkOn : pw_YV yX10_walkOn cX10_walkOn 4 (some .int) 0 := ⟨⟨pw_in (pt_6 (List.mem_of_getElem? (i := 123) (by rfl))) (by rfl), pw_in (pt_1 (List.mem_of_getElem? (i := 16) (by rfl))) (by rfl), by decide +kernel, by decide +kernel, by decide +kernel⟩, pw_in (pt_6 (List.mem_of_getElem? (i := 122) (by rfl))) (by rfl), pw_in (pt_0 (List.mem_of_getElem? (i := 84) (by rfl))) (by rfl)⟩
theorem my_X10_isVariable : pw_YV yX10_isVariable cX10_isVariable 2 (some .boolean) 1 := ⟨⟨pw_in (pt_6 (List.mem_of_getElem? (i := 127) (by rfl))) (by rfl), pw_in (pt_1 (List.mem_of_getElem? (i := 16) (by rfl))) (by rfl), by decide +kernel, by decide +kernel, by decide +kernel⟩, pw_in (pt_6 (List.mem_of_getElem? (i := 126) (by rfl))) (by rfl), pw_in (pt_0 (List.mem_of_getElem? (i := 85) (by rfl))) (by rfl)⟩
theorem my_X10_isIn : pw_YV yX10_isIn cX10_isIn 4 (some .boolean) 2 := ⟨⟨pw_in (pt_6 (List.mem_of_getElem? (i := 131) (by rfl))) (by rfl), pw_in (pt_1 (List.mem_of_getElem? (i := 16) (by rfl))) (by rfl), by decide +kernel, by decide +kernel, by decide +kernel⟩, pw_in (pt_6 (List.mem_of_getElem? (i := 130) (by rfl))) (by rfl), pw_in (pt_0 (List.mem_of_getElem? (i := 86) (by rfl))) (by rfl)⟩
theorem my_X10_toldValue : pw_YV yX10_toldValue cX10_toldValue 3 (some .int) 1 := ⟨⟨pw_in (pt_6 (List.mem_of_getElem? (i := 135) (by rfl))) (by rfl), pw_in (pt_1 (List.mem_of_getElem? (i := 16) (by rfl))) (by rfl), by decide +kernel, by decide +kernel, by decide +kernel⟩, pw_in (pt_6 (List.mem_of_getElem? (i := 134) (by rfl))) (by rfl), pw_in (pt_0 (List.mem_of_getElem? (i := 87) (by rfl))) (by rfl)⟩
theorem my_X10_evaluated : pw_YV yX10_evaluated cX10_evaluated 3 (some .int) 2 := ⟨⟨pw_in (pt_6 (List.mem_of_getElem? (i := 139) (by rfl))) (by rfl), pw_in (pt_1 (List.mem_of_getElem? (i := 16) (by rfl))) (by rfl), by decide +kernel, by decide +kernel, by decide +kernel⟩, pw_in (pt_6 (List.mem_of_getElem? (i := 138) (by rfl))) (by rfl), pw_in (pt_0 (List.mem_of_getElem? (i := 88) (by rfl))) (by rfl)⟩
theorem my_X10_beginEval : pw_YV yX10_beginEval cX10_beginEval 6 none 4 := ⟨⟨pw_in (pt_6 (List.mem_of_getElem? (i := 143) (by rfl))) (by rfl), pw_in (pt_1 (List.mem_of_getElem? (i := 16) (by rfl))) (by rfl), by decide +kernel, by decide +kernel, by decide +kernel⟩, pw_in (pt_6 (List.mem_of_getElem? (i := 142) (by rfl))) (by rfl), pw_in (pt_0 (List.mem_of_getElem? (i := 89) (by rfl))) (by rfl)⟩
theorem my_X10_isConstant : pw_YV yX10_isConstant cX10_isConstant 2 (some .boolean) 1 := ⟨⟨pw_in (pt_6 (List.mem_of_getElem? (i := 147) (by rfl))) (by rfl), pw_in (pt_1 (List.mem_of_getElem? (i := 16) (by rfl))) (by rfl), by decide +kernel, by decide +kernel, by decide +kernel⟩, pw_in (pt_6 (List.mem_of_getElem? (i := 146) (by rfl))) (by rfl), pw_in (pt_0 (List.mem_of_getElem? (i := 90) (by rfl))) (by rfl)⟩
theorem my_X10_valueOf : pw_YV yX10_valueOf cX10_valueOf 2 (some .int) 1 := ⟨⟨pw_in (pt_6 (List.mem_of_getElem? (i := 151) (by rfl))) (by rfl), pw_in (pt_1 (List.mem_of_getElem? (i := 16) (by rfl))) (by rfl), by decide +kernel, by decide +kernel, by decide +kernel⟩, pw_in (pt_6 (List.mem_of_getElem? (i := 150) (by rfl))) (by rfl), pw_in (pt_0 (List.mem_of_getElem? (i := 91) (by rfl))) (by rfl)⟩
theorem my_X10_takeValue : pw_YV yX10_takeValue cX10_takeValue 3 none 1 := ⟨⟨pw_in (pt_6 (List.mem_of_getElem? (i := 155) (by rfl))) (by rfl), pw_in (pt_1 (List.mem_of_getElem? (i := 16) (by rfl))) (by rfl), by decide +kernel, by decide +kernel, by decide +kernel⟩, pw_in (pt_6 (List.mem_of_getElem? (i := 154) (by rfl))) (by rfl), pw_in (pt_0 (List.mem_of_getElem? (i := 92) (by rfl))) (by rfl)⟩
theorem my_X10_term : pw_YV yX10_term cX10_term 3 (some .int) 2 := ⟨⟨pw_in (pt_6 (List.mem_of_getElem? (i := 159) (by rfl))) (by rfl), pw_in (pt_1 (List.mem_of_getElem? (i := 16) (by rfl))) (by rfl), by decide +kernel, by decide +kernel, by decide +kernel⟩, pw_in (pt_6 (List.mem_of_getElem? (i := 158) (by rfl))) (by rfl), pw_in (pt_0 (List.mem_of_getElem? (i := 93) (by rfl))) (by rfl)⟩
theorem my_X10_goOn : pw_YV yX10_goOn cX10_goOn 4 none 1 := ⟨⟨pw_in (pt_6 (List.mem_of_getElem? (i := 163) (by rfl))) (by rfl), pw_in (pt_1 (List.mem_of_getElem? (i := 16) (by rfl))) (by rfl), by decide +kernel, by decide +kernel, by decide +kernel⟩, pw_in (pt_6 (List.mem_of_getElem? (i := 162) (by rfl))) (by rfl), pw_in (pt_0 (List.mem_of_getElem? (i := 94) (by rfl))) (by rfl)⟩
theorem my_X10_basic : pw_YV yX10_basic cX10_basic 5 (some .int) 2 := ⟨⟨pw_in (pt_6 (List.mem_of_getElem? (i := 167) (by rfl))) (by rfl), pw_in (pt_1 (List.mem_of_getElem? (i := 16) (by rfl))) (by rfl), by decide +kernel, by decide +kernel, by decide +kernel⟩, pw_in (pt_6 (List.mem_of_getElem? (i := 166) (by rfl))) (by rfl), pw_in (pt_0 (List.mem_of_getElem? (i := 95) (by rfl))) (by rfl)⟩
theorem my_X10_truth : pw_YS yX10_truth cX10_truth 1 (some .int) 1 := ⟨⟨pw_in (pt_6 (List.mem_of_getElem? (i := 170) (by rfl))) (by rfl), pw_in (pt_1 (List.mem_of_getElem? (i := 16) (by rfl))) (by rfl), by decide +kernel, by decide +kernel, by decide +kernel⟩, pw_in (pt_6 (List.mem_of_getElem? (i := 169) (by rfl))) (by rfl)⟩
theorem my_X10_numberOf : pw_YV yX10_numberOf cX10_numberOf 2 (some .long) 1 := ⟨⟨pw_in (pt_6 (List.mem_of_getElem? (i := 174) (by rfl))) (by rfl), pw_in (pt_1 (List.mem_of_getElem? (i := 16) (by rfl))) (by rfl), by decide +kernel, by decide +kernel, by decide +kernel⟩, pw_in (pt_6 (List.mem_of_getElem? (i := 173) (by rfl))) (by rfl), pw_in (pt_0 (List.mem_of_getElem? (i := 96) (by rfl))) (by rfl)⟩
theorem my_X10_tellOut : pw_YV yX10_tellOut cX10_tellOut 2 none 1 := ⟨⟨pw_in (pt_6 (List.mem_of_getElem? (i := 178) (by rfl))) (by rfl), pw_in (pt_1 (List.mem_of_getElem? (i := 16) (by rfl))) (by rfl), by decide +kernel, by decide +kernel, by decide +kernel⟩, pw_in (pt_6 (List.mem_of_getElem? (i := 177) (by rfl))) (by rfl), pw_in (pt_0 (List.mem_of_getElem? (i := 97) (by rfl))) (by rfl)⟩
theorem my_X10_tellObject : pw_YV yX10_tellObject cX10_tellObject 4 none 1 := ⟨⟨pw_in (pt_6 (List.mem_of_getElem? (i := 182) (by rfl))) (by rfl), pw_in (pt_1 (List.mem_of_getElem? (i := 16) (by rfl))) (by rfl), by decide +kernel, by decide +kernel, by decide +kernel⟩, pw_in (pt_6 (List.mem_of_getElem? (i := 181) (by rfl))) (by rfl), pw_in (pt_0 (List.mem_of_getElem? (i := 98) (by rfl))) (by rfl)⟩
theorem my_X10_later : pw_YV yX10_later cX10_later 2 none 1 := ⟨⟨pw_in (pt_6 (List.mem_of_getElem? (i := 186) (by rfl))) (by rfl), pw_in (pt_1 (List.mem_of_getElem? (i := 16) (by rfl))) (by rfl), by decide +kernel, by decide +kernel, by decide +kernel⟩, pw_in (pt_6 (List.mem_of_getElem? (i := 185) (by rfl))) (by rfl), pw_in (pt_0 (List.mem_of_getElem? (i := 99) (by rfl))) (by rfl)⟩
theorem my_X10_isFull : pw_YV yX10_isFull cX10_isFull 1 (some .boolean) 0 := ⟨⟨pw_in (pt_6 (List.mem_of_getElem? (i := 190) (by rfl))) (by rfl), pw_in (pt_1 (List.mem_of_getElem? (i := 16) (by rfl))) (by rfl), by decide +kernel, by decide +kernel, by decide +kernel⟩, pw_in (pt_6 (List.mem_of_getElem? (i := 189) (by rfl))) (by rfl), pw_in (pt_0 (List.mem_of_getElem? (i := 100) (by rfl))) (by rfl)⟩
theorem my_X10_tellAtom : pw_YV yX10_tellAtom cX10_tellAtom 4 none 1 := ⟨⟨pw_in (pt_6 (List.mem_of_getElem? (i := 194) (by rfl))) (by rfl), pw_in (pt_1 (List.mem_of_getElem? (i := 16) (by rfl))) (by rfl), by decide +kernel, by decide +kernel, by decide +kernel⟩, pw_in (pt_6 (List.mem_of_getElem? (i := 193) (by rfl))) (by rfl), pw_in (pt_0 (List.mem_of_getElem? (i := 101) (by rfl))) (by rfl)⟩
theorem my_X10_tellLetter : pw_YV yX10_tellLetter cX10_tellLetter 2 none 1 := ⟨⟨pw_in (pt_6 (List.mem_of_getElem? (i := 198) (by rfl))) (by rfl), pw_in (pt_1 (List.mem_of_getElem? (i := 16) (by rfl))) (by rfl), by decide +kernel, by decide +kernel, by decide +kernel⟩, pw_in (pt_6 (List.mem_of_getElem? (i := 197) (by rfl))) (by rfl), pw_in (pt_0 (List.mem_of_getElem? (i := 102) (by rfl))) (by rfl)⟩
theorem my_X10_with : pw_YV yX10_with cX10_with 6 (some .int) 1 := ⟨⟨pw_in (pt_6 (List.mem_of_getElem? (i := 202) (by rfl))) (by rfl), pw_in (pt_1 (List.mem_of_getElem? (i := 16) (by rfl))) (by rfl), by decide +kernel, by decide +kernel, by decide +kernel⟩, pw_in (pt_6 (List.mem_of_getElem? (i := 201) (by rfl))) (by rfl), pw_in (pt_0 (List.mem_of_getElem? (i := 103) (by rfl))) (by rfl)⟩
theorem my_X10_map : pw_YV yX10_map cX10_map 6 (some .int) 1 := ⟨⟨pw_in (pt_6 (List.mem_of_getElem? (i := 206) (by rfl))) (by rfl), pw_in (pt_1 (List.mem_of_getElem? (i := 16) (by rfl))) (by rfl), by decide +kernel, by decide +kernel, by decide +kernel⟩, pw_in (pt_6 (List.mem_of_getElem? (i := 205) (by rfl))) (by rfl), pw_in (pt_0 (List.mem_of_getElem? (i := 104) (by rfl))) (by rfl)⟩
theorem my_X10_isNewName : pw_YV yX10_isNewName cX10_isNewName 2 (some .boolean) 1 := ⟨⟨pw_in (pt_6 (List.mem_of_getElem? (i := 210) (by rfl))) (by rfl), pw_in (pt_1 (List.mem_of_getElem? (i := 16) (by rfl))) (by rfl), by decide +kernel, by decide +kernel, by decide +kernel⟩, pw_in (pt_6 (List.mem_of_getElem? (i := 209) (by rfl))) (by rfl), pw_in (pt_0 (List.mem_of_getElem? (i := 105) (by rfl))) (by rfl)⟩
theorem my_X10_isReserved : pw_YS yX10_isReserved cX10_isReserved 1 (some .boolean) 1 := ⟨⟨pw_in (pt_6 (List.mem_of_getElem? (i := 213) (by rfl))) (by rfl), pw_in (pt_1 (List.mem_of_getElem? (i := 16) (by rfl))) (by rfl), by decide +kernel, by decide +kernel, by decide +kernel⟩, pw_in (pt_6 (List.mem_of_getElem? (i := 212) (by rfl))) (by rfl)⟩
theorem my_X10_definition : pw_YV yX10_definition cX10_definition 3 (some .int) 1 := ⟨⟨pw_in (pt_6 (List.mem_of_getElem? (i := 217) (by rfl))) (by rfl), pw_in (pt_1 (List.mem_of_getElem? (i := 16) (by rfl))) (by rfl), by decide +kernel, by decide +kernel, by decide +kernel⟩, pw_in (pt_6 (List.mem_of_getElem? (i := 216) (by rfl))) (by rfl), pw_in (pt_0 (List.mem_of_getElem? (i := 106) (by rfl))) (by rfl)⟩
theorem my_X10_defun : pw_YV yX10_defun cX10_defun 8 (some .int) 2 := ⟨⟨pw_in (pt_6 (List.mem_of_getElem? (i := 221) (by rfl))) (by rfl), pw_in (pt_1 (List.mem_of_getElem? (i := 16) (by rfl))) (by rfl), by decide +kernel, by decide +kernel, by decide +kernel⟩, pw_in (pt_6 (List.mem_of_getElem? (i := 220) (by rfl))) (by rfl), pw_in (pt_0 (List.mem_of_getElem? (i := 107) (by rfl))) (by rfl)⟩
theorem my_X10_areVariables : pw_YV yX10_areVariables cX10_areVariables 6 (some .boolean) 2 := ⟨⟨pw_in (pt_6 (List.mem_of_getElem? (i := 225) (by rfl))) (by rfl), pw_in (pt_1 (List.mem_of_getElem? (i := 16) (by rfl))) (by rfl), by decide +kernel, by decide +kernel, by decide +kernel⟩, pw_in (pt_6 (List.mem_of_getElem? (i := 224) (by rfl))) (by rfl), pw_in (pt_0 (List.mem_of_getElem? (i := 108) (by rfl))) (by rfl)⟩
theorem my_X10_undo : pw_YV yX10_undo cX10_undo 3 (some .int) 1 := ⟨⟨pw_in (pt_6 (List.mem_of_getElem? (i := 229) (by rfl))) (by rfl), pw_in (pt_1 (List.mem_of_getElem? (i := 16) (by rfl))) (by rfl), by decide +kernel, by decide +kernel, by decide +kernel⟩, pw_in (pt_6 (List.mem_of_getElem? (i := 228) (by rfl))) (by rfl), pw_in (pt_0 (List.mem_of_getElem? (i := 109) (by rfl))) (by rfl)⟩
theorem my_X10_hasCall : pw_YV yX10_hasCall cX10_hasCall 4 (some .boolean) 2 := ⟨⟨pw_in (pt_6 (List.mem_of_getElem? (i := 233) (by rfl))) (by rfl), pw_in (pt_1 (List.mem_of_getElem? (i := 16) (by rfl))) (by rfl), by decide +kernel, by decide +kernel, by decide +kernel⟩, pw_in (pt_6 (List.mem_of_getElem? (i := 232) (by rfl))) (by rfl), pw_in (pt_0 (List.mem_of_getElem? (i := 110) (by rfl))) (by rfl)⟩
theorem my_X10_isCallOf : pw_YV yX10_isCallOf cX10_isCallOf 3 (some .boolean) 2 := ⟨⟨pw_in (pt_6 (List.mem_of_getElem? (i := 237) (by rfl))) (by rfl), pw_in (pt_1 (List.mem_of_getElem? (i := 16) (by rfl))) (by rfl), by decide +kernel, by decide +kernel, by decide +kernel⟩, pw_in (pt_6 (List.mem_of_getElem? (i := 236) (by rfl))) (by rfl), pw_in (pt_0 (List.mem_of_getElem? (i := 111) (by rfl))) (by rfl)⟩
theorem my_X10_show : pw_YV yX10_show cX10_show 5 (some .int) 1 := ⟨⟨pw_in (pt_7 (List.mem_of_getElem? (i := 1) (by rfl))) (by rfl), pw_in (pt_1 (List.mem_of_getElem? (i := 16) (by rfl))) (by rfl), by decide +kernel, by decide +kernel, by decide +kernel⟩, pw_in (pt_7 (List.mem_of_getElem? (i := 0) (by rfl))) (by rfl), pw_in (pt_0 (List.mem_of_getElem? (i := 112) (by rfl))) (by rfl)⟩
theorem my_X10_list4 : pw_YV yX10_list4 cX10_list4 5 (some .int) 4 := ⟨⟨pw_in (pt_7 (List.mem_of_getElem? (i := 5) (by rfl))) (by rfl), pw_in (pt_1 (List.mem_of_getElem? (i := 16) (by rfl))) (by rfl), by decide +kernel, by decide +kernel, by decide +kernel⟩, pw_in (pt_7 (List.mem_of_getElem? (i := 4) (by rfl))) (by rfl), pw_in (pt_0 (List.mem_of_getElem? (i := 113) (by rfl))) (by rfl)⟩
theorem my_X10_list3 : pw_YV yX10_list3 cX10_list3 4 (some .int) 3 := ⟨⟨pw_in (pt_7 (List.mem_of_getElem? (i := 9) (by rfl))) (by rfl), pw_in (pt_1 (List.mem_of_getElem? (i := 16) (by rfl))) (by rfl), by decide +kernel, by decide +kernel, by decide +kernel⟩, pw_in (pt_7 (List.mem_of_getElem? (i := 8) (by rfl))) (by rfl), pw_in (pt_0 (List.mem_of_getElem? (i := 114) (by rfl))) (by rfl)⟩
theorem my_X10_forget : pw_YV yX10_forget cX10_forget 2 none 1 := ⟨⟨pw_in (pt_7 (List.mem_of_getElem? (i := 13) (by rfl))) (by rfl), pw_in (pt_1 (List.mem_of_getElem? (i := 16) (by rfl))) (by rfl), by decide +kernel, by decide +kernel, by decide +kernel⟩, pw_in (pt_7 (List.mem_of_getElem? (i := 12) (by rfl))) (by rfl), pw_in (pt_0 (List.mem_of_getElem? (i := 115) (by rfl))) (by rfl)⟩
theorem my_X10_slotOf : pw_YV yX10_slotOf cX10_slotOf 2 (some .int) 1 := ⟨⟨pw_in (pt_7 (List.mem_of_getElem? (i := 17) (by rfl))) (by rfl), pw_in (pt_1 (List.mem_of_getElem? (i := 16) (by rfl))) (by rfl), by decide +kernel, by decide +kernel, by decide +kernel⟩, pw_in (pt_7 (List.mem_of_getElem? (i := 16) (by rfl))) (by rfl), pw_in (pt_0 (List.mem_of_getElem? (i := 116) (by rfl))) (by rfl)⟩
theorem my_X10_fault : pw_YV yX10_fault cX10_fault 2 (some .int) 1 := ⟨⟨pw_in (pt_7 (List.mem_of_getElem? (i := 21) (by rfl))) (by rfl), pw_in (pt_1 (List.mem_of_getElem? (i := 16) (by rfl))) (by rfl), by decide +kernel, by decide +kernel, by decide +kernel⟩, pw_in (pt_7 (List.mem_of_getElem? (i := 19) (by rfl))) (by rfl), pw_in (pt_7 (List.mem_of_getElem? (i := 20) (by rfl))) (by rfl)⟩
theorem my_X10_steps : pw_YV yX10_steps cX10_steps 1 (some .int) 0 := ⟨⟨pw_in (pt_7 (List.mem_of_getElem? (i := 25) (by rfl))) (by rfl), pw_in (pt_1 (List.mem_of_getElem? (i := 16) (by rfl))) (by rfl), by decide +kernel, by decide +kernel, by decide +kernel⟩, pw_in (pt_7 (List.mem_of_getElem? (i := 23) (by rfl))) (by rfl), pw_in (pt_7 (List.mem_of_getElem? (i := 24) (by rfl))) (by rfl)⟩
theorem my_X10_functions : pw_YV yX10_functions cX10_functions 1 (some .int) 0 := ⟨⟨pw_in (pt_7 (List.mem_of_getElem? (i := 29) (by rfl))) (by rfl), pw_in (pt_1 (List.mem_of_getElem? (i := 16) (by rfl))) (by rfl), by decide +kernel, by decide +kernel, by decide +kernel⟩, pw_in (pt_7 (List.mem_of_getElem? (i := 27) (by rfl))) (by rfl), pw_in (pt_7 (List.mem_of_getElem? (i := 28) (by rfl))) (by rfl)⟩
theorem my_X10_size : pw_YV yX10_size cX10_size 1 (some .int) 0 := ⟨⟨pw_in (pt_7 (List.mem_of_getElem? (i := 33) (by rfl))) (by rfl), pw_in (pt_1 (List.mem_of_getElem? (i := 16) (by rfl))) (by rfl), by decide +kernel, by decide +kernel, by decide +kernel⟩, pw_in (pt_7 (List.mem_of_getElem? (i := 31) (by rfl))) (by rfl), pw_in (pt_7 (List.mem_of_getElem? (i := 32) (by rfl))) (by rfl)⟩
theorem my_X10_letter : pw_YV yX10_letter cX10_letter 2 (some .int) 1 := ⟨⟨pw_in (pt_7 (List.mem_of_getElem? (i := 37) (by rfl))) (by rfl), pw_in (pt_1 (List.mem_of_getElem? (i := 16) (by rfl))) (by rfl), by decide +kernel, by decide +kernel, by decide +kernel⟩, pw_in (pt_7 (List.mem_of_getElem? (i := 35) (by rfl))) (by rfl), pw_in (pt_7 (List.mem_of_getElem? (i := 36) (by rfl))) (by rfl)⟩
theorem ma_max_s : Cond.static Lib.Math.max.name ∈ pw_T := pw_in (pt_1 (List.mem_of_getElem? (i := 103) (by rfl))) (by rfl)
theorem ma_max_c : Cond.code Lib.Math.max.name Lib.Math.max.code 2 (some .int) ∈ pw_T := pw_in (pt_1 (List.mem_of_getElem? (i := 104) (by rfl))) (by rfl)
theorem ma_min_s : Cond.static Lib.Math.min.name ∈ pw_T := pw_in (pt_1 (List.mem_of_getElem? (i := 106) (by rfl))) (by rfl)
theorem ma_min_c : Cond.code Lib.Math.min.name Lib.Math.min.code 2 (some .int) ∈ pw_T := pw_in (pt_1 (List.mem_of_getElem? (i := 107) (by rfl))) (by rfl)
theorem ma_i : Cond.initialized "java/lang/Math" ∈ pw_T := pw_in (pt_1 (List.mem_of_getElem? (i := 8) (by rfl))) (by rfl)
