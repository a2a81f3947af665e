set_option maxRecDepth 100000 in
set_option maxHeartbeats 4000000 in
/-- LispMachine -/
theorem m_X9_init2 (g : pw_P) (l : Launch) {w : pw_W} {a : Nat} (hk : w 0 = (a, some (OB 9 [.null, .null, .null, .null, .null, .null, .null]))) (h83 : ∀ k, 83 ≤ k ∧ k ≤ 86 → (w k).2 = none) : pw_M g l yX9_init cX9_init 1 none { frames := 5, cells := 22, slots := 17812, locals := 115 } [.ref a] w (fun r w' => r = none ∧ (w' 0).1 = a ∧ LmI g w' (fun k => (w' k).1) (fun _ => 0) (fun _ => 0) 0 0 (-1) 1000 0 0 [] [] 0 2048 24 ∧ ∀ k, 899 < k → w' k = w k) := by
  refine pw_M.of (by decide) (Nat.le_of_ble_eq_true rfl) rfl ?_
  intro p e s m args below meth c C hr hn
  refine pw_aload_n (i := 0) C dX9_init_0 rfl rfl (Or.inr ⟨_, rfl⟩) ?_
  refine pw_obj (st := []) C ml_X9_1 ob_i ob_c (Nat.le_of_ble_eq_true rfl) (Nat.le_of_ble_eq_true rfl) dX9_init_1 ?_
  refine pw_aload_n (i := 0) C dX9_init_4 rfl rfl (Or.inr ⟨_, rfl⟩) ?_
  refine pw_iconst C dX9_init_5 ?_
  refine pw_newA 1 0 (atype := .int) (N := 5) C ar_int rfl (new_AI g 5) rfl (by decide) (by decide) (Nat.le_of_ble_eq_true rfl) (Nat.le_of_ble_eq_true rfl) dX9_init_6 (fun a_1 w_2 k_3 o_4 => ?_)
  have c_5 := (o_4 0 (by omega)).trans hk
  refine pw_putF (j := 0) C hn cl_X9 fl_X9_9 (by decide) rfl rfl rfl rfl rfl rfl c_5 (Nat.le_of_ble_eq_true rfl) dX9_init_8 (fun w_8 k_6 o_7 => ?_)
  have k_9 : w_8 0 = (a, some (OB 9 [.ref a_1, .null, .null, .null, .null, .null, .null])) := k_6
  refine pw_aload_n (i := 0) C dX9_init_11 rfl rfl (Or.inr ⟨_, rfl⟩) ?_
  refine pw_new 2 (fs := [.null, .null, .null, .null, .null, .int (iZ 0)]) C cl_X6 kl_X9_13 in_X6 ii_X6 (nw_fs rfl) (by (try dsimp only); omega) (by (try dsimp only); omega) dX9_init_12 (fun a_10 w_11 k_12 o_13 => ?_)
  refine pw_dup C dX9_init_15 rfl ?_
  refine pw_callI (As := []) (st := [.ref a_10, .ref a]) C (m_X6_init g l k_12) my_X6_init ml_X9_15 rfl ⟨Nat.le_of_ble_eq_true rfl, Nat.le_of_ble_eq_true rfl⟩ ⟨by (try dsimp only); omega, by (try dsimp only); omega⟩ rfl (Nat.le_of_ble_eq_true rfl) dX9_init_16 ?_
  rintro _ w_14 ⟨rfl, hSt, o_15⟩
  refine pw_stk (st' := [.ref a_10, .ref a]) rfl ?_
  have c_16 := ((o_15 0 (by omega)).trans (o_13 0 (by omega))).trans k_9
  refine pw_putF (j := 1) C hn cl_X9 fl_X9_16 (by decide) rfl rfl rfl rfl rfl rfl c_16 (Nat.le_of_ble_eq_true rfl) dX9_init_19 (fun w_19 k_17 o_18 => ?_)
  have k_20 : w_19 0 = (a, some (OB 9 [.ref a_1, .ref a_10, .null, .null, .null, .null, .null])) := k_17
  refine pw_aload_n (i := 0) C dX9_init_22 rfl rfl (Or.inr ⟨_, rfl⟩) ?_
  refine pw_new 8 (fs := [.null, .null, .int (iZ 0), .int (iZ 0), .int (iZ 0), .null, .int (iZ 0), .null, .null, .int (iZ 0), .int (iZ 0), .int (iZ 0), .long (lZ 0), .long (lZ 0)]) C cl_X5 kl_X9_20 in_X5 ii_X5 (nw_fs rfl) (by (try dsimp only); omega) (by (try dsimp only); omega) dX9_init_23 (fun a_21 w_22 k_23 o_24 => ?_)
  refine pw_dup C dX9_init_26 rfl ?_
  refine pw_aload_n (i := 0) C dX9_init_27 rfl rfl (Or.inr ⟨_, rfl⟩) ?_
  have c_25 := (o_24 0 (by omega)).trans k_20
  refine pw_get (j := 1) C cl_X9 fl_X9_16 (by decide) rfl c_25 rfl dX9_init_28 ?_
  refine pw_callI (As := [.ref a_10]) (st := [.ref a_21, .ref a]) C (m_X5_init g l k_23) my_X5_init ml_X9_22 rfl ⟨Nat.le_of_ble_eq_true rfl, Nat.le_of_ble_eq_true rfl⟩ ⟨by (try dsimp only); omega, by (try dsimp only); omega⟩ rfl (Nat.le_of_ble_eq_true rfl) dX9_init_31 ?_
  rintro _ w_26 ⟨rfl, b9, b10, b11, b12, i8, i9, i10, i11, i12, o_27⟩
  refine pw_stk (st' := [.ref a_21, .ref a]) rfl ?_
  have c_28 := (o_27 0 (by omega)).trans c_25
  refine pw_putF (j := 2) C hn cl_X9 fl_X9_25 (by decide) rfl rfl rfl rfl rfl rfl c_28 (Nat.le_of_ble_eq_true rfl) dX9_init_34 (fun w_31 k_29 o_30 => ?_)
  have k_32 : w_31 0 = (a, some (OB 9 [.ref a_1, .ref a_10, .ref a_21, .null, .null, .null, .null])) := k_29
  refine pw_aload_n (i := 0) C dX9_init_37 rfl rfl (Or.inr ⟨_, rfl⟩) ?_
  refine pw_new 13 (fs := [.null, .null, .int (iZ 0), .null, .int (iZ 0)]) C cl_X7 kl_X9_29 in_X7 ii_X7 (nw_fs rfl) (by (try dsimp only); omega) (by (try dsimp only); omega) dX9_init_38 (fun a_33 w_34 k_35 o_36 => ?_)
  refine pw_dup C dX9_init_41 rfl ?_
  refine pw_aload_n (i := 0) C dX9_init_42 rfl rfl (Or.inr ⟨_, rfl⟩) ?_
  have c_37 := (o_36 0 (by omega)).trans k_32
  refine pw_get (j := 1) C cl_X9 fl_X9_16 (by decide) rfl c_37 rfl dX9_init_43 ?_
  refine pw_callI (As := [.ref a_10]) (st := [.ref a_33, .ref a]) C (m_X7_init g l k_35) my_X7_init ml_X9_31 rfl ⟨Nat.le_of_ble_eq_true rfl, Nat.le_of_ble_eq_true rfl⟩ ⟨by (try dsimp only); omega, by (try dsimp only); omega⟩ rfl (Nat.le_of_ble_eq_true rfl) dX9_init_46 ?_
  rintro _ w_38 ⟨rfl, b14, b15, i13, i14, i15, o_39⟩
  refine pw_stk (st' := [.ref a_33, .ref a]) rfl ?_
  have c_40 := (o_39 0 (by omega)).trans c_37
  refine pw_putF (j := 3) C hn cl_X9 fl_X9_32 (by decide) rfl rfl rfl rfl rfl rfl c_40 (Nat.le_of_ble_eq_true rfl) dX9_init_49 (fun w_43 k_41 o_42 => ?_)
  have k_44 : w_43 0 = (a, some (OB 9 [.ref a_1, .ref a_10, .ref a_21, .ref a_33, .null, .null, .null])) := k_41
  refine pw_aload_n (i := 0) C dX9_init_52 rfl rfl (Or.inr ⟨_, rfl⟩) ?_
  refine pw_new 16 (fs := [.null, .int (iZ 0)]) C cl_X4 kl_X9_36 in_X4 ii_X4 (nw_fs rfl) (by (try dsimp only); omega) (by (try dsimp only); omega) dX9_init_53 (fun a_45 w_46 k_47 o_48 => ?_)
  refine pw_dup C dX9_init_56 rfl ?_
  refine pw_callIN (As := []) (st := [.ref a_45, .ref a]) C (m_X4_init g l k_47) my_X4_init mn_X9_38 rfl ⟨Nat.le_of_ble_eq_true rfl, Nat.le_of_ble_eq_true rfl⟩ ⟨by (try dsimp only); omega, by (try dsimp only); omega⟩ rfl (Nat.le_of_ble_eq_true rfl) dX9_init_57 ?_
  rintro _ w_49 ⟨rfl, b17, i16, i17, o_50⟩
  refine pw_stk (st' := [.ref a_45, .ref a]) rfl ?_
  have c_51 := ((o_50 0 (by omega)).trans (o_48 0 (by omega))).trans k_44
  refine pw_putF (j := 4) C hn cl_X9 fl_X9_39 (by decide) rfl rfl rfl rfl rfl rfl c_51 (Nat.le_of_ble_eq_true rfl) dX9_init_60 (fun w_54 k_52 o_53 => ?_)
  have k_55 : w_54 0 = (a, some (OB 9 [.ref a_1, .ref a_10, .ref a_21, .ref a_33, .ref a_45, .null, .null])) := k_52
  refine pw_aload_n (i := 0) C dX9_init_63 rfl rfl (Or.inr ⟨_, rfl⟩) ?_
  refine pw_new 18 (fs := [.null, .null, .null, .int (iZ 0), .int (iZ 0), .int (iZ 0), .int (iZ 0), .int (iZ 0), .int (iZ 0), .int (iZ 0), .null, .int (iZ 0)]) C cl_X3 kl_X9_43 in_X3 ii_X3 (nw_fs rfl) (by (try dsimp only); omega) (by (try dsimp only); omega) dX9_init_64 (fun a_56 w_57 k_58 o_59 => ?_)
  refine pw_dup C dX9_init_67 rfl ?_
  refine pw_aload_n (i := 0) C dX9_init_68 rfl rfl (Or.inr ⟨_, rfl⟩) ?_
  have c_60 := (o_59 0 (by omega)).trans k_55
  refine pw_get (j := 1) C cl_X9 fl_X9_16 (by decide) rfl c_60 rfl dX9_init_69 ?_
  refine pw_aload_n (i := 0) C dX9_init_72 rfl rfl (Or.inr ⟨_, rfl⟩) ?_
  refine pw_get (j := 4) C cl_X9 fl_X9_39 (by decide) rfl c_60 rfl dX9_init_73 ?_
  refine pw_callI (As := [.ref a_10, .ref a_45]) (st := [.ref a_56, .ref a]) C (m_X3_init g l k_58) my_X3_init ml_X9_45 rfl ⟨Nat.le_of_ble_eq_true rfl, Nat.le_of_ble_eq_true rfl⟩ ⟨by (try dsimp only); omega, by (try dsimp only); omega⟩ rfl (Nat.le_of_ble_eq_true rfl) dX9_init_76 ?_
  rintro _ w_61 ⟨rfl, b19, i18, i19, o_62⟩
  refine pw_stk (st' := [.ref a_56, .ref a]) rfl ?_
  have c_63 := (o_62 0 (by omega)).trans c_60
  refine pw_putF (j := 5) C hn cl_X9 fl_X9_48 (by decide) rfl rfl rfl rfl rfl rfl c_63 (Nat.le_of_ble_eq_true rfl) dX9_init_79 (fun w_66 k_64 o_65 => ?_)
  have k_67 : w_66 0 = (a, some (OB 9 [.ref a_1, .ref a_10, .ref a_21, .ref a_33, .ref a_45, .ref a_56, .null])) := k_64
  refine pw_aload_n (i := 0) C dX9_init_82 rfl rfl (Or.inr ⟨_, rfl⟩) ?_
  refine pw_new 20 (fs := [.null, .null, .null, .null, .int (iZ 0), .int (iZ 0)]) C cl_X1 kl_X9_52 in_X1 ii_X1 (nw_fs rfl) (by (try dsimp only); omega) (by (try dsimp only); omega) dX9_init_83 (fun a_68 w_69 k_70 o_71 => ?_)
  refine pw_dup C dX9_init_86 rfl ?_
  refine pw_aload_n (i := 0) C dX9_init_87 rfl rfl (Or.inr ⟨_, rfl⟩) ?_
  have c_72 := (o_71 0 (by omega)).trans k_67
  refine pw_get (j := 1) C cl_X9 fl_X9_16 (by decide) rfl c_72 rfl dX9_init_88 ?_
  refine pw_aload_n (i := 0) C dX9_init_91 rfl rfl (Or.inr ⟨_, rfl⟩) ?_
  refine pw_get (j := 4) C cl_X9 fl_X9_39 (by decide) rfl c_72 rfl dX9_init_92 ?_
  refine pw_aload_n (i := 0) C dX9_init_95 rfl rfl (Or.inr ⟨_, rfl⟩) ?_
  refine pw_get (j := 5) C cl_X9 fl_X9_48 (by decide) rfl c_72 rfl dX9_init_96 ?_
  have hSy := hSt.same (w' := w_69) (fun k h1 h2 => (o_71 k (by omega)).trans ((o_65 k (by omega)).trans ((o_62 k (by omega)).trans ((o_59 k (by omega)).trans ((o_53 k (by omega)).trans ((o_50 k (by omega)).trans ((o_48 k (by omega)).trans ((o_42 k (by omega)).trans ((o_39 k (by omega)).trans ((o_36 k (by omega)).trans ((o_30 k (by omega)).trans ((o_27 k (by omega)).trans ((o_24 k (by omega)).trans (o_18 k (by omega)))))))))))))))
  obtain ⟨y3, y4, y5, y6, y7, hcell⟩ := hSy.cell
  refine pw_callI (As := [.ref a_10, .ref a_45, .ref a_56]) (st := [.ref a_68, .ref a]) C (m_X1_init g l k_70 hcell) my_X1_init ml_X9_54 rfl ⟨Nat.le_of_ble_eq_true rfl, Nat.le_of_ble_eq_true rfl⟩ ⟨by (try dsimp only); omega, by (try dsimp only); omega⟩ rfl (Nat.le_of_ble_eq_true rfl) dX9_init_99 ?_
  rintro _ w_73 ⟨rfl, b21, b22, i20, i21, i22, o_74⟩
  refine pw_stk (st' := [.ref a_68, .ref a]) rfl ?_
  have c_75 := (o_74 0 (by omega)).trans c_72
  refine pw_putF (j := 6) C hn cl_X9 fl_X9_57 (by decide) rfl rfl rfl rfl rfl rfl c_75 (Nat.le_of_ble_eq_true rfl) dX9_init_102 (fun w_78 k_76 o_77 => ?_)
  have k_79 : w_78 0 = (a, some (OB 9 [.ref a_1, .ref a_10, .ref a_21, .ref a_33, .ref a_45, .ref a_56, .ref a_68])) := k_76
  have c_80 := ((o_77 1 (by omega)).trans ((o_74 1 (by omega)).trans ((o_71 1 (by omega)).trans ((o_65 1 (by omega)).trans ((o_62 1 (by omega)).trans ((o_59 1 (by omega)).trans ((o_53 1 (by omega)).trans ((o_50 1 (by omega)).trans ((o_48 1 (by omega)).trans ((o_42 1 (by omega)).trans ((o_39 1 (by omega)).trans ((o_36 1 (by omega)).trans ((o_30 1 (by omega)).trans ((o_27 1 (by omega)).trans ((o_24 1 (by omega)).trans ((o_18 1 (by omega)).trans ((o_15 1 (by omega)).trans ((o_13 1 (by omega)).trans (o_7 1 (by omega)))))))))))))))))))).trans k_3
  have c_81 := ((o_77 8 (by omega)).trans ((o_74 8 (by omega)).trans ((o_71 8 (by omega)).trans ((o_65 8 (by omega)).trans ((o_62 8 (by omega)).trans ((o_59 8 (by omega)).trans ((o_53 8 (by omega)).trans ((o_50 8 (by omega)).trans ((o_48 8 (by omega)).trans ((o_42 8 (by omega)).trans ((o_39 8 (by omega)).trans ((o_36 8 (by omega)).trans (o_30 8 (by omega)))))))))))))).trans i8
  have c_82 := ((o_77 9 (by omega)).trans ((o_74 9 (by omega)).trans ((o_71 9 (by omega)).trans ((o_65 9 (by omega)).trans ((o_62 9 (by omega)).trans ((o_59 9 (by omega)).trans ((o_53 9 (by omega)).trans ((o_50 9 (by omega)).trans ((o_48 9 (by omega)).trans ((o_42 9 (by omega)).trans ((o_39 9 (by omega)).trans ((o_36 9 (by omega)).trans (o_30 9 (by omega)))))))))))))).trans i9
  have c_83 := ((o_77 10 (by omega)).trans ((o_74 10 (by omega)).trans ((o_71 10 (by omega)).trans ((o_65 10 (by omega)).trans ((o_62 10 (by omega)).trans ((o_59 10 (by omega)).trans ((o_53 10 (by omega)).trans ((o_50 10 (by omega)).trans ((o_48 10 (by omega)).trans ((o_42 10 (by omega)).trans ((o_39 10 (by omega)).trans ((o_36 10 (by omega)).trans (o_30 10 (by omega)))))))))))))).trans i10
  have c_84 := ((o_77 11 (by omega)).trans ((o_74 11 (by omega)).trans ((o_71 11 (by omega)).trans ((o_65 11 (by omega)).trans ((o_62 11 (by omega)).trans ((o_59 11 (by omega)).trans ((o_53 11 (by omega)).trans ((o_50 11 (by omega)).trans ((o_48 11 (by omega)).trans ((o_42 11 (by omega)).trans ((o_39 11 (by omega)).trans ((o_36 11 (by omega)).trans (o_30 11 (by omega)))))))))))))).trans i11
  have c_85 := ((o_77 12 (by omega)).trans ((o_74 12 (by omega)).trans ((o_71 12 (by omega)).trans ((o_65 12 (by omega)).trans ((o_62 12 (by omega)).trans ((o_59 12 (by omega)).trans ((o_53 12 (by omega)).trans ((o_50 12 (by omega)).trans ((o_48 12 (by omega)).trans ((o_42 12 (by omega)).trans ((o_39 12 (by omega)).trans ((o_36 12 (by omega)).trans (o_30 12 (by omega)))))))))))))).trans i12
  have c_86 := ((o_77 13 (by omega)).trans ((o_74 13 (by omega)).trans ((o_71 13 (by omega)).trans ((o_65 13 (by omega)).trans ((o_62 13 (by omega)).trans ((o_59 13 (by omega)).trans ((o_53 13 (by omega)).trans ((o_50 13 (by omega)).trans ((o_48 13 (by omega)).trans (o_42 13 (by omega))))))))))).trans i13
  have c_87 := ((o_77 14 (by omega)).trans ((o_74 14 (by omega)).trans ((o_71 14 (by omega)).trans ((o_65 14 (by omega)).trans ((o_62 14 (by omega)).trans ((o_59 14 (by omega)).trans ((o_53 14 (by omega)).trans ((o_50 14 (by omega)).trans ((o_48 14 (by omega)).trans (o_42 14 (by omega))))))))))).trans i14
  have c_88 := ((o_77 15 (by omega)).trans ((o_74 15 (by omega)).trans ((o_71 15 (by omega)).trans ((o_65 15 (by omega)).trans ((o_62 15 (by omega)).trans ((o_59 15 (by omega)).trans ((o_53 15 (by omega)).trans ((o_50 15 (by omega)).trans ((o_48 15 (by omega)).trans (o_42 15 (by omega))))))))))).trans i15
  have c_89 := ((o_77 16 (by omega)).trans ((o_74 16 (by omega)).trans ((o_71 16 (by omega)).trans ((o_65 16 (by omega)).trans ((o_62 16 (by omega)).trans ((o_59 16 (by omega)).trans (o_53 16 (by omega)))))))).trans i16
  have c_90 := ((o_77 17 (by omega)).trans ((o_74 17 (by omega)).trans ((o_71 17 (by omega)).trans ((o_65 17 (by omega)).trans ((o_62 17 (by omega)).trans ((o_59 17 (by omega)).trans (o_53 17 (by omega)))))))).trans i17
  have c_91 := ((o_77 18 (by omega)).trans ((o_74 18 (by omega)).trans ((o_71 18 (by omega)).trans (o_65 18 (by omega))))).trans i18
  have c_92 := ((o_77 19 (by omega)).trans ((o_74 19 (by omega)).trans ((o_71 19 (by omega)).trans (o_65 19 (by omega))))).trans i19
  have c_93 := (o_77 20 (by omega)).trans i20
  have c_94 := (o_77 21 (by omega)).trans i21
  have c_95 := (o_77 22 (by omega)).trans i22
  have hSz := hSt.same (w' := w_78) (fun k h1 h2 => (o_77 k (by omega)).trans ((o_74 k (by omega)).trans ((o_71 k (by omega)).trans ((o_65 k (by omega)).trans ((o_62 k (by omega)).trans ((o_59 k (by omega)).trans ((o_53 k (by omega)).trans ((o_50 k (by omega)).trans ((o_48 k (by omega)).trans ((o_42 k (by omega)).trans ((o_39 k (by omega)).trans ((o_36 k (by omega)).trans ((o_30 k (by omega)).trans ((o_27 k (by omega)).trans ((o_24 k (by omega)).trans (o_18 k (by omega)))))))))))))))))
  have hA : ∀ k, (fun k => (w_78 k).1) k = (w_78 k).1 := fun _ => rfl
  refine pw_vret C hr dX9_init_105 ⟨rfl, by rw [k_79], ?_, fun k hk => (o_77 k (by omega)).trans ((o_74 k (by omega)).trans ((o_71 k (by omega)).trans ((o_65 k (by omega)).trans ((o_62 k (by omega)).trans ((o_59 k (by omega)).trans ((o_53 k (by omega)).trans ((o_50 k (by omega)).trans ((o_48 k (by omega)).trans ((o_42 k (by omega)).trans ((o_39 k (by omega)).trans ((o_36 k (by omega)).trans ((o_30 k (by omega)).trans ((o_27 k (by omega)).trans ((o_24 k (by omega)).trans ((o_18 k (by omega)).trans ((o_15 k (by omega)).trans ((o_13 k (by omega)).trans ((o_7 k (by omega)).trans (o_4 k (by omega))))))))))))))))))))⟩
  have e2 : (w_78 2).1 = a_10 := hSz.1
  have e0 : (w_78 0).1 = a := by rw [k_79]
  have e1 : (w_78 1).1 = a_1 := by rw [c_80]
  have e8 : (w_78 8).1 = a_21 := by rw [c_81]
  have e9 : (w_78 9).1 = b9 := by rw [c_82]
  have e10 : (w_78 10).1 = b10 := by rw [c_83]
  have e11 : (w_78 11).1 = b11 := by rw [c_84]
  have e12 : (w_78 12).1 = b12 := by rw [c_85]
  have e13 : (w_78 13).1 = a_33 := by rw [c_86]
  have e14 : (w_78 14).1 = b14 := by rw [c_87]
  have e15 : (w_78 15).1 = b15 := by rw [c_88]
  have e16 : (w_78 16).1 = a_45 := by rw [c_89]
  have e17 : (w_78 17).1 = b17 := by rw [c_90]
  have e18 : (w_78 18).1 = a_56 := by rw [c_91]
  have e19 : (w_78 19).1 = b19 := by rw [c_92]
  have e20 : (w_78 20).1 = a_68 := by rw [c_93]
  have e21 : (w_78 21).1 = b21 := by rw [c_94]
  have e22 : (w_78 22).1 = b22 := by rw [c_95]
  refine ⟨fun i => .index (kn i.toNat), 24, 0, fun _ => 0, [], [], ?_, ?_, fun _ => (by decide : inI 0), ?_, ⟨0, 0, 0, 0, 0, false, fun _ => 0, fun _ => 0, fun _ => 0, ?_, ?_, ?_, ?_, ?_, fun _ => (by decide : inI 0), fun _ => (by decide : inI 0), fun _ => (by decide : inI 0)⟩, fun _ => (by decide : (0 : Int) ≤ 0 ∧ (0 : Int) < 256), by decide, ⟨b14, b15, 0, 0, fun _ => 0, fun _ => 0, ?_, ?_, ?_, fun _ => (by decide : inI 0), fun _ => (by decide : inI 0), ⟨rfl, fun j hj => absurd hj (by omega)⟩, rfl, trivial, by decide⟩, ⟨fun _ => none, ?_, ?_, fun i hi => rfl, by decide, trivial⟩, trivial, ⟨fun _ => none, fun _ => 0, fun _ => 0, 0, 0, 0, 0, 0, none, ?_, ?_, fun i hi => rfl, by decide, fun i hi => absurd hi (Nat.not_lt_zero _), by decide, by decide⟩, ⟨fun _ => 0, 0, ?_, ?_, fun _ => (by decide : inI 0)⟩, ?_, ⟨by decide, by decide⟩, fun d hd => absurd hd List.not_mem_nil, fun d hd => absurd hd List.not_mem_nil, ⟨by decide, by decide⟩, fun k hk => ?_⟩
  · show w_78 0 = ((w_78 0).1, some (OB 9 [.ref (w_78 1).1, .ref (w_78 2).1, .ref (w_78 8).1, .ref (w_78 13).1, .ref (w_78 16).1, .ref (w_78 18).1, .ref (w_78 20).1])); rw [e0, e1, e2, e8, e13, e16, e18, e20]; exact k_79
  · show w_78 1 = ((w_78 1).1, _); rw [e1]; exact c_80
  · show SB g w_78 (w_78 2).1 2048 _ 24; rw [e2]; exact hSz
  · show w_78 8 = ((w_78 8).1, some (OB 5 [.ref (w_78 2).1, .ref (w_78 9).1, .int (iZ 0), .int (iZ 0), .int (iZ (-1)), .ref (w_78 10).1, .int (iZ 0), .ref (w_78 11).1, .ref (w_78 12).1, .int (iZ 0), .int (iZ 0), .int (iZ 0), .long (lZ 0), .long (lZ 0)])); rw [e8, e2, e9, e10, e11, e12]; exact c_81
  · show w_78 9 = ((w_78 9).1, _); rw [e9]; exact c_82
  · show w_78 10 = ((w_78 10).1, _); rw [e10]; exact c_83
  · show w_78 11 = ((w_78 11).1, _); rw [e11]; exact c_84
  · show w_78 12 = ((w_78 12).1, _); rw [e12]; exact c_85
  · show w_78 13 = ((w_78 13).1, some (OB 7 [.ref (w_78 2).1, .ref _, .int (iZ 0), .ref _, .int (iZ 0)])); rw [e13, e2]; exact c_86
  · exact c_87
  · exact c_88
  · show w_78 16 = ((w_78 16).1, some (OB 4 [.ref (w_78 17).1, .int (iZ 0)])); rw [e16, e17]; exact c_89
  · show w_78 17 = ((w_78 17).1, _); rw [e17]; exact c_90
  · show w_78 18 = ((w_78 18).1, some (OB 3 [.ref (w_78 2).1, .ref (w_78 16).1, .ref (w_78 19).1, .int (iZ 0), .int (iZ 1000), .int (iZ 0), .int (iZ 0), .int (iZ 0), .int (iZ 0), .int (iZ 0), .null, .int (iZ 0)])); rw [e18, e2, e16, e19]; exact c_91
  · show w_78 19 = ((w_78 19).1, _); rw [e19]; exact c_92
  · show w_78 21 = ((w_78 21).1, some (OB 8 [.ref (w_78 2).1, .ref (w_78 16).1, .ref (w_78 22).1, .int (iZ 0)])); rw [e21, e2, e16, e22]; exact c_94
  · show w_78 22 = ((w_78 22).1, _); rw [e22]; exact c_95
  · show w_78 20 = ((w_78 20).1, some (OB 1 [.ref (w_78 2).1, .ref (w_78 16).1, .ref (w_78 18).1, .ref (w_78 21).1, .int (iZ 0), .int (iZ 24)])); rw [e20, e2, e16, e18, e21]; exact c_93
  · rw [show w_78 k = w k from (o_77 k (by omega)).trans ((o_74 k (by omega)).trans ((o_71 k (by omega)).trans ((o_65 k (by omega)).trans ((o_62 k (by omega)).trans ((o_59 k (by omega)).trans ((o_53 k (by omega)).trans ((o_50 k (by omega)).trans ((o_48 k (by omega)).trans ((o_42 k (by omega)).trans ((o_39 k (by omega)).trans ((o_36 k (by omega)).trans ((o_30 k (by omega)).trans ((o_27 k (by omega)).trans ((o_24 k (by omega)).trans ((o_18 k (by omega)).trans ((o_15 k (by omega)).trans ((o_13 k (by omega)).trans ((o_7 k (by omega)).trans (o_4 k (by omega))))))))))))))))))))]; exact h83 k hk

