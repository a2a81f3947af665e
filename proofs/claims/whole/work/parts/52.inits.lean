set_option maxRecDepth 100000 in
set_option maxHeartbeats 4000000 in
/-- X5_init -/
theorem m_X5_init (g : pw_P) (l : Launch) {w : pw_W} {a bs : Nat} (hk : w 8 = (a, some (OB 5 [.null, .null, .int (iZ 0), .int (iZ 0), .int (iZ 0), .null, .int (iZ 0), .null, .null, .int (iZ 0), .int (iZ 0), .int (iZ 0), .long (lZ 0), .long (lZ 0)]))) : pw_M g l yX5_init cX5_init 2 none { frames := 1, cells := 4, slots := 4082, locals := 20 } [.ref a, .ref bs] w (fun r w' => r = none ∧ ∃ b9 : Nat, ∃ b10 : Nat, ∃ b11 : Nat, ∃ b12 : Nat, w' 8 = (a, some (OB 5 [.ref bs, .ref b9, .int (iZ 0), .int (iZ 0), .int (iZ (-1)), .ref b10, .int (iZ 0), .ref b11, .ref b12, .int (iZ 0), .int (iZ 0), .int (iZ 0), .long (lZ 0), .long (lZ 0)])) ∧ w' 9 = (b9, some (AC g 3000 (fun _ => 0))) ∧ w' 10 = (b10, some (AI g 1000 (fun _ => 0))) ∧ w' 11 = (b11, some (AI g 41 (fun _ => 0))) ∧ w' 12 = (b12, some (AI g 41 (fun _ => 0))) ∧ ∀ k, (k < 8 ∨ 12 < k) → w' k = w k) := by
  refine pw_M.of (by decide) (Nat.le_of_ble_eq_true rfl) rfl ?_
  intro p e s m args below meth c C hr hn
  refine pw_aload_n (i := 0) C dX5_init_0 rfl rfl (Or.inr ⟨_, rfl⟩) ?_
  refine pw_obj (st := []) C ml_X5_3 ob_i ob_c (Nat.le_of_ble_eq_true rfl) (Nat.le_of_ble_eq_true rfl) dX5_init_1 ?_
  refine pw_aload_n (i := 0) C dX5_init_4 rfl rfl (Or.inr ⟨_, rfl⟩) ?_
  refine pw_sipush C dX5_init_5 (by decide) ?_
  refine pw_newA 9 2 (atype := .char) (N := 3000) C ar_char rfl (new_AC g 3000) rfl (by decide) (by decide) (Nat.le_of_ble_eq_true rfl) (Nat.le_of_ble_eq_true rfl) dX5_init_8 (fun a_1 w_2 k_3 o_4 => ?_)
  have c_5 := (o_4 8 (by omega)).trans hk
  refine pw_putF (j := 1) C hn cl_X5 fl_X5_9 (by decide) rfl rfl rfl rfl rfl rfl c_5 (Nat.le_of_ble_eq_true rfl) dX5_init_10 (fun w_8 k_6 o_7 => ?_)
  have k_9 : w_8 8 = (a, some (OB 5 [.null, .ref a_1, .int (iZ 0), .int (iZ 0), .int (iZ 0), .null, .int (iZ 0), .null, .null, .int (iZ 0), .int (iZ 0), .int (iZ 0), .long (lZ 0), .long (lZ 0)])) := k_6
  refine pw_aload_n (i := 0) C dX5_init_13 rfl rfl (Or.inr ⟨_, rfl⟩) ?_
  refine pw_iconst C dX5_init_14 ?_
  refine pw_put (j := 4) C cl_X5 fl_X5_15 (by decide) rfl rfl rfl rfl rfl k_9 (Nat.le_of_ble_eq_true rfl) dX5_init_15 (fun w_12 k_10 o_11 => ?_)
  have k_13 : w_12 8 = (a, some (OB 5 [.null, .ref a_1, .int (iZ 0), .int (iZ 0), .int (iZ (-1)), .null, .int (iZ 0), .null, .null, .int (iZ 0), .int (iZ 0), .int (iZ 0), .long (lZ 0), .long (lZ 0)])) := k_10
  refine pw_aload_n (i := 0) C dX5_init_18 rfl rfl (Or.inr ⟨_, rfl⟩) ?_
  refine pw_sipush C dX5_init_19 (by decide) ?_
  refine pw_newA 10 0 (atype := .int) (N := 1000) C ar_int rfl (new_AI g 1000) rfl (by decide) (by decide) (Nat.le_of_ble_eq_true rfl) (Nat.le_of_ble_eq_true rfl) dX5_init_22 (fun a_14 w_15 k_16 o_17 => ?_)
  have c_18 := (o_17 8 (by omega)).trans k_13
  refine pw_putF (j := 5) C hn cl_X5 fl_X5_19 (by decide) rfl rfl rfl rfl rfl rfl c_18 (Nat.le_of_ble_eq_true rfl) dX5_init_24 (fun w_21 k_19 o_20 => ?_)
  have k_22 : w_21 8 = (a, some (OB 5 [.null, .ref a_1, .int (iZ 0), .int (iZ 0), .int (iZ (-1)), .ref a_14, .int (iZ 0), .null, .null, .int (iZ 0), .int (iZ 0), .int (iZ 0), .long (lZ 0), .long (lZ 0)])) := k_19
  refine pw_aload_n (i := 0) C dX5_init_27 rfl rfl (Or.inr ⟨_, rfl⟩) ?_
  refine pw_bipush C dX5_init_28 (by decide) ?_
  refine pw_newA 11 0 (atype := .int) (N := 41) C ar_int rfl (new_AI g 41) rfl (by decide) (by decide) (Nat.le_of_ble_eq_true rfl) (Nat.le_of_ble_eq_true rfl) dX5_init_30 (fun a_23 w_24 k_25 o_26 => ?_)
  have c_27 := (o_26 8 (by omega)).trans k_22
  refine pw_putF (j := 7) C hn cl_X5 fl_X5_23 (by decide) rfl rfl rfl rfl rfl rfl c_27 (Nat.le_of_ble_eq_true rfl) dX5_init_32 (fun w_30 k_28 o_29 => ?_)
  have k_31 : w_30 8 = (a, some (OB 5 [.null, .ref a_1, .int (iZ 0), .int (iZ 0), .int (iZ (-1)), .ref a_14, .int (iZ 0), .ref a_23, .null, .int (iZ 0), .int (iZ 0), .int (iZ 0), .long (lZ 0), .long (lZ 0)])) := k_28
  refine pw_aload_n (i := 0) C dX5_init_35 rfl rfl (Or.inr ⟨_, rfl⟩) ?_
  refine pw_bipush C dX5_init_36 (by decide) ?_
  refine pw_newA 12 0 (atype := .int) (N := 41) C ar_int rfl (new_AI g 41) rfl (by decide) (by decide) (Nat.le_of_ble_eq_true rfl) (Nat.le_of_ble_eq_true rfl) dX5_init_38 (fun a_32 w_33 k_34 o_35 => ?_)
  have c_36 := (o_35 8 (by omega)).trans k_31
  refine pw_putF (j := 8) C hn cl_X5 fl_X5_26 (by decide) rfl rfl rfl rfl rfl rfl c_36 (Nat.le_of_ble_eq_true rfl) dX5_init_40 (fun w_39 k_37 o_38 => ?_)
  have k_40 : w_39 8 = (a, some (OB 5 [.null, .ref a_1, .int (iZ 0), .int (iZ 0), .int (iZ (-1)), .ref a_14, .int (iZ 0), .ref a_23, .ref a_32, .int (iZ 0), .int (iZ 0), .int (iZ 0), .long (lZ 0), .long (lZ 0)])) := k_37
  refine pw_aload_n (i := 0) C dX5_init_43 rfl rfl (Or.inr ⟨_, rfl⟩) ?_
  refine pw_aload_n (i := 1) C dX5_init_44 rfl rfl (Or.inr ⟨_, rfl⟩) ?_
  refine pw_putF (j := 0) C hn cl_X5 fl_X5_29 (by decide) rfl rfl rfl rfl rfl rfl k_40 (Nat.le_of_ble_eq_true rfl) dX5_init_45 (fun w_43 k_41 o_42 => ?_)
  have k_44 : w_43 8 = (a, some (OB 5 [.ref bs, .ref a_1, .int (iZ 0), .int (iZ 0), .int (iZ (-1)), .ref a_14, .int (iZ 0), .ref a_23, .ref a_32, .int (iZ 0), .int (iZ 0), .int (iZ 0), .long (lZ 0), .long (lZ 0)])) := k_41
  have c_45 := ((o_42 9 (by omega)).trans ((o_38 9 (by omega)).trans ((o_35 9 (by omega)).trans ((o_29 9 (by omega)).trans ((o_26 9 (by omega)).trans ((o_20 9 (by omega)).trans ((o_17 9 (by omega)).trans ((o_11 9 (by omega)).trans (o_7 9 (by omega)))))))))).trans k_3
  have c_46 := ((o_42 10 (by omega)).trans ((o_38 10 (by omega)).trans ((o_35 10 (by omega)).trans ((o_29 10 (by omega)).trans ((o_26 10 (by omega)).trans (o_20 10 (by omega))))))).trans k_16
  have c_47 := ((o_42 11 (by omega)).trans ((o_38 11 (by omega)).trans ((o_35 11 (by omega)).trans (o_29 11 (by omega))))).trans k_25
  have c_48 := ((o_42 12 (by omega)).trans (o_38 12 (by omega))).trans k_34
  exact pw_vret C hr dX5_init_48 ⟨rfl, a_1, a_14, a_23, a_32, k_44, c_45, c_46, c_47, c_48, fun k hk => (o_42 k (by omega)).trans ((o_38 k (by omega)).trans ((o_35 k (by omega)).trans ((o_29 k (by omega)).trans ((o_26 k (by omega)).trans ((o_20 k (by omega)).trans ((o_17 k (by omega)).trans ((o_11 k (by omega)).trans ((o_7 k (by omega)).trans (o_4 k (by omega))))))))))⟩

set_option maxRecDepth 100000 in
set_option maxHeartbeats 4000000 in
/-- X7_init -/
theorem m_X7_init (g : pw_P) (l : Launch) {w : pw_W} {a bs : Nat} (hk : w 13 = (a, some (OB 7 [.null, .null, .int (iZ 0), .null, .int (iZ 0)]))) : pw_M g l yX7_init cX7_init 2 none { frames := 1, cells := 2, slots := 4000, locals := 20 } [.ref a, .ref bs] w (fun r w' => r = none ∧ ∃ b14 : Nat, ∃ b15 : Nat, w' 13 = (a, some (OB 7 [.ref bs, .ref b14, .int (iZ 0), .ref b15, .int (iZ 0)])) ∧ w' 14 = (b14, some (AC g 2000 (fun _ => 0))) ∧ w' 15 = (b15, some (AI g 2000 (fun _ => 0))) ∧ ∀ k, (k < 13 ∨ 15 < k) → w' k = w k) := by
  refine pw_M.of (by decide) (Nat.le_of_ble_eq_true rfl) rfl ?_
  intro p e s m args below meth c C hr hn
  refine pw_aload_n (i := 0) C dX7_init_0 rfl rfl (Or.inr ⟨_, rfl⟩) ?_
  refine pw_obj (st := []) C ml_X7_3 ob_i ob_c (Nat.le_of_ble_eq_true rfl) (Nat.le_of_ble_eq_true rfl) dX7_init_1 ?_
  refine pw_aload_n (i := 0) C dX7_init_4 rfl rfl (Or.inr ⟨_, rfl⟩) ?_
  refine pw_sipush C dX7_init_5 (by decide) ?_
  refine pw_newA 14 2 (atype := .char) (N := 2000) C ar_char rfl (new_AC g 2000) rfl (by decide) (by decide) (Nat.le_of_ble_eq_true rfl) (Nat.le_of_ble_eq_true rfl) dX7_init_8 (fun a_1 w_2 k_3 o_4 => ?_)
  have c_5 := (o_4 13 (by omega)).trans hk
  refine pw_putF (j := 1) C hn cl_X7 fl_X7_9 (by decide) rfl rfl rfl rfl rfl rfl c_5 (Nat.le_of_ble_eq_true rfl) dX7_init_10 (fun w_8 k_6 o_7 => ?_)
  have k_9 : w_8 13 = (a, some (OB 7 [.null, .ref a_1, .int (iZ 0), .null, .int (iZ 0)])) := k_6
  refine pw_aload_n (i := 0) C dX7_init_13 rfl rfl (Or.inr ⟨_, rfl⟩) ?_
  refine pw_sipush C dX7_init_14 (by decide) ?_
  refine pw_newA 15 0 (atype := .int) (N := 2000) C ar_int rfl (new_AI g 2000) rfl (by decide) (by decide) (Nat.le_of_ble_eq_true rfl) (Nat.le_of_ble_eq_true rfl) dX7_init_17 (fun a_10 w_11 k_12 o_13 => ?_)
  have c_14 := (o_13 13 (by omega)).trans k_9
  refine pw_putF (j := 3) C hn cl_X7 fl_X7_15 (by decide) rfl rfl rfl rfl rfl rfl c_14 (Nat.le_of_ble_eq_true rfl) dX7_init_19 (fun w_17 k_15 o_16 => ?_)
  have k_18 : w_17 13 = (a, some (OB 7 [.null, .ref a_1, .int (iZ 0), .ref a_10, .int (iZ 0)])) := k_15
  refine pw_aload_n (i := 0) C dX7_init_22 rfl rfl (Or.inr ⟨_, rfl⟩) ?_
  refine pw_aload_n (i := 1) C dX7_init_23 rfl rfl (Or.inr ⟨_, rfl⟩) ?_
  refine pw_putF (j := 0) C hn cl_X7 fl_X7_19 (by decide) rfl rfl rfl rfl rfl rfl k_18 (Nat.le_of_ble_eq_true rfl) dX7_init_24 (fun w_21 k_19 o_20 => ?_)
  have k_22 : w_21 13 = (a, some (OB 7 [.ref bs, .ref a_1, .int (iZ 0), .ref a_10, .int (iZ 0)])) := k_19
  have c_23 := ((o_20 14 (by omega)).trans ((o_16 14 (by omega)).trans ((o_13 14 (by omega)).trans (o_7 14 (by omega))))).trans k_3
  have c_24 := ((o_20 15 (by omega)).trans (o_16 15 (by omega))).trans k_12
  exact pw_vret C hr dX7_init_27 ⟨rfl, a_1, a_10, k_22, c_23, c_24, fun k hk => (o_20 k (by omega)).trans ((o_16 k (by omega)).trans ((o_13 k (by omega)).trans ((o_7 k (by omega)).trans (o_4 k (by omega)))))⟩

set_option maxRecDepth 100000 in
set_option maxHeartbeats 4000000 in
/-- X4_init -/
theorem m_X4_init (g : pw_P) (l : Launch) {w : pw_W} {a : Nat} (hk : w 16 = (a, some (OB 4 [.null, .int (iZ 0)]))) : pw_M g l yX4_init cX4_init 1 none { frames := 1, cells := 1, slots := 40, locals := 20 } [.ref a] w (fun r w' => r = none ∧ ∃ b17 : Nat, w' 16 = (a, some (OB 4 [.ref b17, .int (iZ 0)])) ∧ w' 17 = (b17, some (AR g 4 40 (fun _ => none))) ∧ ∀ k, (k < 16 ∨ 17 < k) → w' k = w k) := by
  refine pw_M.of (by decide) (Nat.le_of_ble_eq_true rfl) rfl ?_
  intro p e s m args below meth c C hr hn
  refine pw_aload_n (i := 0) C dX4_init_0 rfl rfl (Or.inr ⟨_, rfl⟩) ?_
  refine pw_obj (st := []) C ml_X4_3 ob_i ob_c (Nat.le_of_ble_eq_true rfl) (Nat.le_of_ble_eq_true rfl) dX4_init_1 ?_
  refine pw_aload_n (i := 0) C dX4_init_4 rfl rfl (Or.inr ⟨_, rfl⟩) ?_
  refine pw_bipush C dX4_init_5 (by decide) ?_
  refine pw_newR 17 4 (N := 40) C kl_X4_9 C.F.2.2.2.2.2.2.1 rfl rfl (by decide) (by decide) (Nat.le_of_ble_eq_true rfl) (Nat.le_of_ble_eq_true rfl) dX4_init_7 (fun a_1 w_2 k_3 o_4 => ?_)
  have c_5 := (o_4 16 (by omega)).trans hk
  refine pw_putF (j := 0) C hn cl_X4 fl_X4_11 (by decide) rfl rfl rfl rfl rfl rfl c_5 (Nat.le_of_ble_eq_true rfl) dX4_init_10 (fun w_8 k_6 o_7 => ?_)
  have k_9 : w_8 16 = (a, some (OB 4 [.ref a_1, .int (iZ 0)])) := k_6
  have c_10 := (o_7 17 (by omega)).trans k_3
  exact pw_vret C hr dX4_init_13 ⟨rfl, a_1, k_9, c_10, fun k hk => (o_7 k (by omega)).trans (o_4 k (by omega))⟩

set_option maxRecDepth 100000 in
set_option maxHeartbeats 4000000 in
/-- X3_init -/
theorem m_X3_init (g : pw_P) (l : Launch) {w : pw_W} {a bs bf : Nat} (hk : w 18 = (a, some (OB 3 [.null, .null, .null, .int (iZ 0), .int (iZ 0), .int (iZ 0), .int (iZ 0), .int (iZ 0), .int (iZ 0), .int (iZ 0), .null, .int (iZ 0)]))) : pw_M g l yX3_init cX3_init 3 none { frames := 1, cells := 1, slots := 300, locals := 20 } [.ref a, .ref bs, .ref bf] w (fun r w' => r = none ∧ ∃ b19 : Nat, w' 18 = (a, some (OB 3 [.ref bs, .ref bf, .ref b19, .int (iZ 0), .int (iZ 1000), .int (iZ 0), .int (iZ 0), .int (iZ 0), .int (iZ 0), .int (iZ 0), .null, .int (iZ 0)])) ∧ w' 19 = (b19, some (AR g 5 300 (fun _ => none))) ∧ ∀ k, (k < 18 ∨ 19 < k) → w' k = w k) := by
  refine pw_M.of (by decide) (Nat.le_of_ble_eq_true rfl) rfl ?_
  intro p e s m args below meth c C hr hn
  refine pw_aload_n (i := 0) C dX3_init_0 rfl rfl (Or.inr ⟨_, rfl⟩) ?_
  refine pw_obj (st := []) C ml_X3_3 ob_i ob_c (Nat.le_of_ble_eq_true rfl) (Nat.le_of_ble_eq_true rfl) dX3_init_1 ?_
  refine pw_aload_n (i := 0) C dX3_init_4 rfl rfl (Or.inr ⟨_, rfl⟩) ?_
  refine pw_sipush C dX3_init_5 (by decide) ?_
  refine pw_newR 19 5 (N := 300) C kl_X3_11 C.F.2.2.2.2.2.2.2.1 rfl rfl (by decide) (by decide) (Nat.le_of_ble_eq_true rfl) (Nat.le_of_ble_eq_true rfl) dX3_init_8 (fun a_1 w_2 k_3 o_4 => ?_)
  have c_5 := (o_4 18 (by omega)).trans hk
  refine pw_putF (j := 2) C hn cl_X3 fl_X3_13 (by decide) rfl rfl rfl rfl rfl rfl c_5 (Nat.le_of_ble_eq_true rfl) dX3_init_11 (fun w_8 k_6 o_7 => ?_)
  have k_9 : w_8 18 = (a, some (OB 3 [.null, .null, .ref a_1, .int (iZ 0), .int (iZ 0), .int (iZ 0), .int (iZ 0), .int (iZ 0), .int (iZ 0), .int (iZ 0), .null, .int (iZ 0)])) := k_6
  refine pw_aload_n (i := 0) C dX3_init_14 rfl rfl (Or.inr ⟨_, rfl⟩) ?_
  refine pw_sipush C dX3_init_15 (by decide) ?_
  refine pw_put (j := 4) C cl_X3 fl_X3_17 (by decide) rfl rfl rfl rfl rfl k_9 (Nat.le_of_ble_eq_true rfl) dX3_init_18 (fun w_12 k_10 o_11 => ?_)
  have k_13 : w_12 18 = (a, some (OB 3 [.null, .null, .ref a_1, .int (iZ 0), .int (iZ 1000), .int (iZ 0), .int (iZ 0), .int (iZ 0), .int (iZ 0), .int (iZ 0), .null, .int (iZ 0)])) := k_10
  refine pw_aload_n (i := 0) C dX3_init_21 rfl rfl (Or.inr ⟨_, rfl⟩) ?_
  refine pw_aload_n (i := 1) C dX3_init_22 rfl rfl (Or.inr ⟨_, rfl⟩) ?_
  refine pw_putF (j := 0) C hn cl_X3 fl_X3_21 (by decide) rfl rfl rfl rfl rfl rfl k_13 (Nat.le_of_ble_eq_true rfl) dX3_init_23 (fun w_16 k_14 o_15 => ?_)
  have k_17 : w_16 18 = (a, some (OB 3 [.ref bs, .null, .ref a_1, .int (iZ 0), .int (iZ 1000), .int (iZ 0), .int (iZ 0), .int (iZ 0), .int (iZ 0), .int (iZ 0), .null, .int (iZ 0)])) := k_14
  refine pw_aload_n (i := 0) C dX3_init_26 rfl rfl (Or.inr ⟨_, rfl⟩) ?_
  refine pw_aload_n (i := 2) C dX3_init_27 rfl rfl (Or.inr ⟨_, rfl⟩) ?_
  refine pw_putF (j := 1) C hn cl_X3 fl_X3_25 (by decide) rfl rfl rfl rfl rfl rfl k_17 (Nat.le_of_ble_eq_true rfl) dX3_init_28 (fun w_20 k_18 o_19 => ?_)
  have k_21 : w_20 18 = (a, some (OB 3 [.ref bs, .ref bf, .ref a_1, .int (iZ 0), .int (iZ 1000), .int (iZ 0), .int (iZ 0), .int (iZ 0), .int (iZ 0), .int (iZ 0), .null, .int (iZ 0)])) := k_18
  have c_22 := ((o_19 19 (by omega)).trans ((o_15 19 (by omega)).trans ((o_11 19 (by omega)).trans (o_7 19 (by omega))))).trans k_3
  exact pw_vret C hr dX3_init_31 ⟨rfl, a_1, k_21, c_22, fun k hk => (o_19 k (by omega)).trans ((o_15 k (by omega)).trans ((o_11 k (by omega)).trans ((o_7 k (by omega)).trans (o_4 k (by omega)))))⟩

set_option maxRecDepth 100000 in
set_option maxHeartbeats 4000000 in
/-- X8_init -/
theorem m_X8_init (g : pw_P) (l : Launch) {w : pw_W} {a bs bf : Nat} (hk : w 21 = (a, some (OB 8 [.null, .null, .null, .int (iZ 0)]))) : pw_M g l yX8_init cX8_init 3 none { frames := 1, cells := 1, slots := 120, locals := 20 } [.ref a, .ref bs, .ref bf] w (fun r w' => r = none ∧ ∃ b22 : Nat, w' 21 = (a, some (OB 8 [.ref bs, .ref bf, .ref b22, .int (iZ 0)])) ∧ w' 22 = (b22, some (AI g 120 (fun _ => 0))) ∧ ∀ k, (k < 21 ∨ 22 < k) → w' k = w k) := by
  refine pw_M.of (by decide) (Nat.le_of_ble_eq_true rfl) rfl ?_
  intro p e s m args below meth c C hr hn
  refine pw_aload_n (i := 0) C dX8_init_0 rfl rfl (Or.inr ⟨_, rfl⟩) ?_
  refine pw_obj (st := []) C ml_X8_3 ob_i ob_c (Nat.le_of_ble_eq_true rfl) (Nat.le_of_ble_eq_true rfl) dX8_init_1 ?_
  refine pw_aload_n (i := 0) C dX8_init_4 rfl rfl (Or.inr ⟨_, rfl⟩) ?_
  refine pw_bipush C dX8_init_5 (by decide) ?_
  refine pw_newA 22 0 (atype := .int) (N := 120) C ar_int rfl (new_AI g 120) rfl (by decide) (by decide) (Nat.le_of_ble_eq_true rfl) (Nat.le_of_ble_eq_true rfl) dX8_init_7 (fun a_1 w_2 k_3 o_4 => ?_)
  have c_5 := (o_4 21 (by omega)).trans hk
  refine pw_putF (j := 2) C hn cl_X8 fl_X8_9 (by decide) rfl rfl rfl rfl rfl rfl c_5 (Nat.le_of_ble_eq_true rfl) dX8_init_9 (fun w_8 k_6 o_7 => ?_)
  have k_9 : w_8 21 = (a, some (OB 8 [.null, .null, .ref a_1, .int (iZ 0)])) := k_6
  refine pw_aload_n (i := 0) C dX8_init_12 rfl rfl (Or.inr ⟨_, rfl⟩) ?_
  refine pw_aload_n (i := 1) C dX8_init_13 rfl rfl (Or.inr ⟨_, rfl⟩) ?_
  refine pw_putF (j := 0) C hn cl_X8 fl_X8_15 (by decide) rfl rfl rfl rfl rfl rfl k_9 (Nat.le_of_ble_eq_true rfl) dX8_init_14 (fun w_12 k_10 o_11 => ?_)
  have k_13 : w_12 21 = (a, some (OB 8 [.ref bs, .null, .ref a_1, .int (iZ 0)])) := k_10
  refine pw_aload_n (i := 0) C dX8_init_17 rfl rfl (Or.inr ⟨_, rfl⟩) ?_
  refine pw_aload_n (i := 2) C dX8_init_18 rfl rfl (Or.inr ⟨_, rfl⟩) ?_
  refine pw_putF (j := 1) C hn cl_X8 fl_X8_19 (by decide) rfl rfl rfl rfl rfl rfl k_13 (Nat.le_of_ble_eq_true rfl) dX8_init_19 (fun w_16 k_14 o_15 => ?_)
  have k_17 : w_16 21 = (a, some (OB 8 [.ref bs, .ref bf, .ref a_1, .int (iZ 0)])) := k_14
  have c_18 := ((o_15 22 (by omega)).trans ((o_11 22 (by omega)).trans (o_7 22 (by omega)))).trans k_3
  exact pw_vret C hr dX8_init_22 ⟨rfl, a_1, k_17, c_18, fun k hk => (o_15 k (by omega)).trans ((o_11 k (by omega)).trans ((o_7 k (by omega)).trans (o_4 k (by omega))))⟩

set_option maxRecDepth 100000 in
set_option maxHeartbeats 4000000 in
/-- Commands -/
theorem m_X1_init (g : pw_P) (l : Launch) {w : pw_W} {a bs bf be y3 y4 y5 y6 y7 : Nat} {n : Int} (hk : w 20 = (a, some (OB 1 [.null, .null, .null, .null, .int (iZ 0), .int (iZ 0)]))) (hs : w 2 = (bs, some (OB 6 [.ref y3, .ref y4, .ref y5, .ref y6, .ref y7, .int (iZ n)]))) : pw_M g l yX1_init cX1_init 4 none { frames := 2, cells := 2, slots := 124, locals := 42 } [.ref a, .ref bs, .ref bf, .ref be] w (fun r w' => r = none ∧ ∃ b21 b22 : Nat, w' 20 = (a, some (OB 1 [.ref bs, .ref bf, .ref be, .ref b21, .int (iZ 0), .int (iZ n)])) ∧ w' 21 = (b21, some (OB 8 [.ref bs, .ref bf, .ref b22, .int (iZ 0)])) ∧ w' 22 = (b22, some (AI g 120 (fun _ => 0))) ∧ ∀ k, (k < 20 ∨ 22 < k) → w' k = w k) := by
  refine pw_M.of (by decide) (Nat.le_of_ble_eq_true rfl) rfl ?_
  intro p e s m args below meth c C hr hn
  refine pw_aload_n (i := 0) C dX1_init_0 rfl rfl (Or.inr ⟨_, rfl⟩) ?_
  refine pw_obj (st := []) C ml_X1_3 ob_i ob_c (Nat.le_of_ble_eq_true rfl) (Nat.le_of_ble_eq_true rfl) dX1_init_1 ?_
  refine pw_aload_n (i := 0) C dX1_init_4 rfl rfl (Or.inr ⟨_, rfl⟩) ?_
  refine pw_aload_n (i := 1) C dX1_init_5 rfl rfl (Or.inr ⟨_, rfl⟩) ?_
  refine pw_putF (j := 0) C hn cl_X1 fl_X1_9 (by decide) rfl rfl rfl rfl rfl rfl hk (Nat.le_of_ble_eq_true rfl) dX1_init_6 (fun w_3 k_1 o_2 => ?_)
  have k_4 : w_3 20 = (a, some (OB 1 [.ref bs, .null, .null, .null, .int (iZ 0), .int (iZ 0)])) := k_1
  refine pw_aload_n (i := 0) C dX1_init_9 rfl rfl (Or.inr ⟨_, rfl⟩) ?_
  refine pw_aload_n (i := 2) C dX1_init_10 rfl rfl (Or.inr ⟨_, rfl⟩) ?_
  refine pw_putF (j := 1) C hn cl_X1 fl_X1_15 (by decide) rfl rfl rfl rfl rfl rfl k_4 (Nat.le_of_ble_eq_true rfl) dX1_init_11 (fun w_7 k_5 o_6 => ?_)
  have k_8 : w_7 20 = (a, some (OB 1 [.ref bs, .ref bf, .null, .null, .int (iZ 0), .int (iZ 0)])) := k_5
  refine pw_aload_n (i := 0) C dX1_init_14 rfl rfl (Or.inr ⟨_, rfl⟩) ?_
  refine pw_aload_n (i := 3) C dX1_init_15 rfl rfl (Or.inr ⟨_, rfl⟩) ?_
  refine pw_putF (j := 2) C hn cl_X1 fl_X1_19 (by decide) rfl rfl rfl rfl rfl rfl k_8 (Nat.le_of_ble_eq_true rfl) dX1_init_16 (fun w_11 k_9 o_10 => ?_)
  have k_12 : w_11 20 = (a, some (OB 1 [.ref bs, .ref bf, .ref be, .null, .int (iZ 0), .int (iZ 0)])) := k_9
  refine pw_aload_n (i := 0) C dX1_init_19 rfl rfl (Or.inr ⟨_, rfl⟩) ?_
  refine pw_new 21 (fs := [.null, .null, .null, .int (iZ 0)]) C cl_X8 kl_X1_23 in_X8 ii_X8 (nw_fs rfl) (by (try dsimp only); omega) (by (try dsimp only); omega) dX1_init_20 (fun a_13 w_14 k_15 o_16 => ?_)
  refine pw_dup C dX1_init_23 rfl ?_
  refine pw_aload_n (i := 1) C dX1_init_24 rfl rfl (Or.inr ⟨_, rfl⟩) ?_
  refine pw_aload_n (i := 2) C dX1_init_25 rfl rfl (Or.inr ⟨_, rfl⟩) ?_
  refine pw_callI (As := [.ref bs, .ref bf]) (st := [.ref a_13, .ref a]) C (m_X8_init g l k_15) my_X8_init ml_X1_25 rfl ⟨Nat.le_of_ble_eq_true rfl, Nat.le_of_ble_eq_true rfl⟩ ⟨by (try dsimp only); omega, by (try dsimp only); omega⟩ rfl (Nat.le_of_ble_eq_true rfl) dX1_init_26 ?_
  rintro _ w8 ⟨rfl, b22, i1, i2, o8⟩
  refine pw_stk (st' := [.ref a_13, .ref a]) rfl ?_
  have c_17 := ((o8 20 (by omega)).trans (o_16 20 (by omega))).trans k_12
  refine pw_putF (j := 3) C hn cl_X1 fl_X1_28 (by decide) rfl rfl rfl rfl rfl rfl c_17 (Nat.le_of_ble_eq_true rfl) dX1_init_29 (fun w_20 k_18 o_19 => ?_)
  have k_21 : w_20 20 = (a, some (OB 1 [.ref bs, .ref bf, .ref be, .ref a_13, .int (iZ 0), .int (iZ 0)])) := k_18
  refine pw_aload_n (i := 0) C dX1_init_32 rfl rfl (Or.inr ⟨_, rfl⟩) ?_
  refine pw_aload_n (i := 1) C dX1_init_33 rfl rfl (Or.inr ⟨_, rfl⟩) ?_
  have c_22 := ((o_19 2 (by omega)).trans ((o8 2 (by omega)).trans ((o_16 2 (by omega)).trans ((o_10 2 (by omega)).trans ((o_6 2 (by omega)).trans (o_2 2 (by omega))))))).trans hs
  refine pw_getN (j := 5) C cl_X6 fn_X1_32 (by decide) rfl c_22 rfl dX1_init_34 ?_
  refine pw_put (j := 5) C cl_X1 fl_X1_38 (by decide) rfl rfl rfl rfl rfl k_21 (Nat.le_of_ble_eq_true rfl) dX1_init_37 (fun w_25 k_23 o_24 => ?_)
  have k_26 : w_25 20 = (a, some (OB 1 [.ref bs, .ref bf, .ref be, .ref a_13, .int (iZ 0), .int (iZ n)])) := k_23
  have c_27 := ((o_24 21 (by omega)).trans (o_19 21 (by omega))).trans i1
  have c_28 := ((o_24 22 (by omega)).trans (o_19 22 (by omega))).trans i2
  exact pw_vret C hr dX1_init_40 ⟨rfl, a_13, b22, k_26, c_27, c_28, fun k hk => (o_24 k (by omega)).trans ((o_19 k (by omega)).trans ((o8 k (by omega)).trans ((o_16 k (by omega)).trans ((o_10 k (by omega)).trans ((o_6 k (by omega)).trans (o_2 k (by omega)))))))⟩

