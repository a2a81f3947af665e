theorem cmdF_an (T : List Dn) (fu nk : Nat) (X : Ob) : (cmdF T fu nk X).1.1 ≤ 8 := by
  have h1 : ∀ Vs B Y, (evC T fu nk Vs B Y).1 ≤ 8 := by
    intro Vs B Y; unfold evC; split
    · split <;> exact Nat.le_of_ble_eq_true rfl
    · exact Nat.le_of_ble_eq_true rfl
  have h2 : ∀ N Ls, (mapC T fu nk N Ls).1 ≤ 8 := by
    intro N Ls; unfold mapC; split
    · split
      · exact Nat.le_of_ble_eq_true rfl
      · split
        · split <;> exact Nat.le_of_ble_eq_true rfl
        · exact Nat.le_of_ble_eq_true rfl
    · exact Nat.le_of_ble_eq_true rfl
  have h3 : ∀ N P Y, (defC T N P Y).1 ≤ 8 := by
    intro N P Y; unfold defC; split
    · split
      · exact Nat.le_of_ble_eq_true rfl
      · split <;> exact Nat.le_of_ble_eq_true rfl
    · exact Nat.le_of_ble_eq_true rfl
  have h4 : ∀ N P Y, (redoC T N P Y).1 ≤ 8 := by
    intro N P Y; unfold redoC; split
    · split
      · exact Nat.le_of_ble_eq_true rfl
      · split <;> exact Nat.le_of_ble_eq_true rfl
    · exact Nat.le_of_ble_eq_true rfl
  have h5 : (undoC T).1 ≤ 8 := by
    unfold undoC; split
    · exact Nat.le_of_ble_eq_true rfl
    · split <;> exact Nat.le_of_ble_eq_true rfl
  have h6 : ∀ N, (showC T N).1 ≤ 8 := by
    intro N; unfold showC; split
    · split <;> exact Nat.le_of_ble_eq_true rfl
    · exact Nat.le_of_ble_eq_true rfl
  have h7 : (cB T nk).1.1 ≤ 8 := Nat.le_of_ble_eq_true rfl
  unfold cmdF
  split
  · split
    · exact h1 _ _ _
    · exact h7
  · split
    · split
      · exact h7
      · exact h1 _ _ _
    · exact h7
  · split
    · exact h2 _ _
    · exact h7
  · split
    · exact h3 _ _ _
    · exact h7
  · split
    · exact h4 _ _ _
    · exact h7
  · split
    · exact h5
    · exact h7
  · split
    · exact h6 _
    · exact h7
  · exact h7
set_option maxRecDepth 100000 in
set_option maxHeartbeats 4000000 in
/-- run -/
theorem m_X9_run (g : pw_P) (l : Launch) {w : pw_W} {A : Nat → Nat} {wt f : Int → Int} {len rf : Nat} {rp : Int} {fu sp wf : Nat} {T : List Dn} {L : List Int} {nk cap : Nat} {kp : Int} (hL : LmI g w A wt f len rf rp fu sp wf T L nk cap kp) {gc gs : Nat} (hkp : kp + (3 * (if 1000 < ((len : Nat) : Int) then 1000 else ((len : Nat) : Int)) + 1250) ≤ 16384) (hg : (cap : Int) < rmZ (kp + (3 * (if 1000 < ((len : Nat) : Int) then 1000 else ((len : Nat) : Int)) + 1250)) → 4 ≤ gc ∧ 4 * (rmZ (kp + (3 * (if 1000 < ((len : Nat) : Int) then 1000 else ((len : Nat) : Int)) + 1250))).toNat ≤ gs) : pw_M g l yX9_run cX9_run 3 (some .int) { frames := 9, cells := (600 + gc), slots := (3900 + gs), locals := 195 } [.ref (A 0)] w (fun r w' => r = some (.int (iZ (((rnF T fu nk (rTx f len)).1.1 : Nat) : Int))) ∧ (∃ (kp' : Int) (cap' : Nat), LmI g w' A wt f 0 (rTx f len).1 (rTx f len).2.1 fu (rnF T fu nk (rTx f len)).1.2.2.1 (rnF T fu nk (rTx f len)).1.2.2.2.1 (rnF T fu nk (rTx f len)).2 (ouF (rnF T fu nk (rTx f len)).1) (rnF T fu nk (rTx f len)).1.2.2.2.2 cap' kp' ∧ kp' ≤ kp + 2 * (min (nzC f len) 1000 : Nat) ∧ cap' = (if (cap : Int) < rmZ (kp + (3 * (if 1000 < ((len : Nat) : Int) then 1000 else ((len : Nat) : Int)) + 1250)) then (rmZ (kp + (3 * (if 1000 < ((len : Nat) : Int) then 1000 else ((len : Nat) : Int)) + 1250))).toNat else cap)) ∧ ∀ k, 899 < k → w' k = w k) := by
  refine pw_M.of (by decide) (Nat.le_of_ble_eq_true rfl) rfl ?_
  intro p e s m args below meth c C hr hn
  obtain ⟨t, n, rs, D, ds, q, c0, c1, c2, c3, c4, c5, c6, c7, c8, c9, c10, c11, c12, c13, c14, c15, c16, c17⟩ := id hL
  obtain ⟨ic, op, wd, am, sp0, dg, it, fi, aw, k8, k9, k10, k11, k12, ki, kf, ka⟩ := id c4
  refine pw_aload_n (i := 0) C dX9_run_0 rfl rfl (Or.inr ⟨_, rfl⟩) ?_
  refine pw_get (j := 3) C cl_X9 fl_X9_32 (by decide) rfl c0 rfl dX9_run_1 ?_
  refine pw_callV (As := []) (st := []) C (to_clear g l c7) my_X7_clear ml_X9_78 (c7.rec C) rfl ⟨Nat.le_of_ble_eq_true rfl, Nat.le_of_ble_eq_true rfl⟩ ⟨by (try dsimp only); omega, by (try dsimp only); omega⟩ rfl (Nat.le_of_ble_eq_true rfl) dX9_run_4 ?_
  rintro _ w1 ⟨rfl, hT1, o1⟩
  refine pw_stk (st' := []) rfl ?_
  refine pw_aload_n (i := 0) C dX9_run_7 rfl rfl (Or.inr ⟨_, rfl⟩) ?_
  have c_1 := (o1 0 (by omega)).trans c0
  refine pw_get (j := 5) C cl_X9 fl_X9_48 (by decide) rfl c_1 rfl dX9_run_8 ?_
  have hE1 := c10.same (w' := w1) (fun k hk => o1 k (by omega))
  refine pw_callV (As := []) (st := []) C (ev_clear g l hE1) my_X3_clear ml_X9_81 (hE1.rec C) rfl ⟨Nat.le_of_ble_eq_true rfl, Nat.le_of_ble_eq_true rfl⟩ ⟨by (try dsimp only); omega, by (try dsimp only); omega⟩ rfl (Nat.le_of_ble_eq_true rfl) dX9_run_11 ?_
  rintro _ w2 ⟨rfl, hE2, o2⟩
  refine pw_stk (st' := []) rfl ?_
  refine pw_aload_n (i := 0) C dX9_run_14 rfl rfl (Or.inr ⟨_, rfl⟩) ?_
  have c_2 := (o2 0 (by omega)).trans c_1
  refine pw_get (j := 1) C cl_X9 fl_X9_16 (by decide) rfl c_2 rfl dX9_run_15 ?_
  refine pw_aload_n (i := 0) C dX9_run_18 rfl rfl (Or.inr ⟨_, rfl⟩) ?_
  refine pw_get (j := 6) C cl_X9 fl_X9_57 (by decide) rfl c_2 rfl dX9_run_19 ?_
  have c_3 := ((o2 20 (by omega)).trans (o1 20 (by omega))).trans c12
  refine pw_getN (j := 5) C cl_X1 fn_X9_82 (by decide) rfl c_3 rfl dX9_run_22 ?_
  obtain ⟨hb2, hW2, hO2⟩ := c3.same (w' := w2) (fun k h1 h2 => (o2 k (by omega)).trans (o1 k (by omega)))
  have hrec2 : SB g w2 (A 2) cap t n := ⟨hb2, hW2, hO2⟩
  refine pw_callV (As := [.int (iZ kp)]) (st := []) C (tr_forgetFrom hb2 hW2 c13) my_X6_forgetFrom ml_X9_85 (hrec2.rec C) rfl ⟨Nat.le_of_ble_eq_true rfl, Nat.le_of_ble_eq_true rfl⟩ ⟨by (try dsimp only); omega, by (try dsimp only); omega⟩ rfl (Nat.le_of_ble_eq_true rfl) dX9_run_25 ?_
  rintro _ w3 ⟨rfl, hW3, hb3, o3⟩
  have hS3 : SB g w3 (A 2) cap t kp := ⟨hb3.trans hb2, hW3, hO2.le c13.2⟩
  refine pw_stk (st' := []) rfl ?_
  refine pw_aload_n (i := 0) C dX9_run_28 rfl rfl (Or.inr ⟨_, rfl⟩) ?_
  have c_4 := (o3 0 (by omega)).trans c_2
  refine pw_get (j := 1) C cl_X9 fl_X9_16 (by decide) rfl c_4 rfl dX9_run_29 ?_
  refine pw_aload_n (i := 0) C dX9_run_32 rfl rfl (Or.inr ⟨_, rfl⟩) ?_
  refine pw_get (j := 6) C cl_X9 fl_X9_57 (by decide) rfl c_4 rfl dX9_run_33 ?_
  refine pw_aload_n (i := 0) C dX9_run_36 rfl rfl (Or.inr ⟨_, rfl⟩) ?_
  refine pw_get (j := 2) C cl_X9 fl_X9_25 (by decide) rfl c_4 rfl dX9_run_37 ?_
  have c_5 := ((o3 8 (by omega)).trans ((o2 8 (by omega)).trans (o1 8 (by omega)))).trans k8
  refine pw_getN (j := 2) C cl_X5 fn_X9_61 (by decide) rfl c_5 rfl dX9_run_40 ?_
  have c_6 := (o3 20 (by omega)).trans c_3
  refine pw_callV (As := [.int (iZ ((len : Nat) : Int))]) (st := [.ref (A 2)]) C (m_X1_roomFor g l (by omega)) my_X1_roomFor ml_X9_89 (pw_rec.of C c_6 cl_X1.1) rfl ⟨Nat.le_of_ble_eq_true rfl, Nat.le_of_ble_eq_true rfl⟩ ⟨by (try dsimp only); omega, by (try dsimp only); omega⟩ rfl (Nat.le_of_ble_eq_true rfl) dX9_run_43 ?_
  rintro _ _ ⟨rfl, rfl⟩
  refine pw_stk (st' := [.int (iZ (3 * (if 1000 < ((len : Nat) : Int) then 1000 else ((len : Nat) : Int)) + 1250)), .ref (A 2)]) rfl ?_
  generalize hXR : (3 * (if 1000 < ((len : Nat) : Int) then 1000 else ((len : Nat) : Int)) + 1250) = XR at *
  have hXb : XR = 3 * ((min len 1000 : Nat) : Int) + 1250 := by rw [← hXR]; split <;> omega
  have hrm : kp + XR ≤ rmZ (kp + XR) := by unfold rmZ; split <;> (try split) <;> (try split) <;> omega
  have hrm2 := rmZ_in (kp + XR)
  by_cases hgr : (cap : Int) < rmZ (kp + XR)
  · have hgg := hg hgr
    refine pw_callV (As := [.int (iZ XR)]) (st := []) C (tr_makeRoom_grow (N := (rmZ (kp + XR)).toNat) hS3.1 hS3.2.1 (by omega) hgr (by omega) (fun k hk => by rw [show w3 k = w k from (o3 k (by omega)).trans ((o2 k (by omega)).trans (o1 k (by omega)))]; exact c17 k hk)) my_X6_makeRoom ml_X9_93 (hS3.rec C) rfl ⟨Nat.le_of_ble_eq_true rfl, Nat.le_of_ble_eq_true rfl⟩ ⟨by (try dsimp only); omega, by (try dsimp only); omega⟩ rfl (Nat.le_of_ble_eq_true rfl) dX9_run_46 ?_
    rintro _ w4 ⟨rfl, hW4, hb4, o4⟩
    have hS4 : SB g w4 (A 2) (rmZ (kp + XR)).toNat t kp := ⟨hb4.trans hS3.1, hW4, hS3.2.2⟩
    rw [decide_eq_true (show kp + XR ≤ (((rmZ (kp + XR)).toNat : Nat) : Int) by omega)]
    have hcp' : kp + XR ≤ (((rmZ (kp + XR)).toNat : Nat) : Int) := by omega
    have hcq : ((rmZ (kp + XR)).toNat : Nat) = (if (cap : Int) < rmZ (kp + XR) then (rmZ (kp + XR)).toNat else cap) := by rw [if_pos hgr]
    refine pw_stk (st' := [.int (iZ 1)]) rfl ?_
    refine pw_if_ne (tgt := 62) C (by omega) dX9_run_49 (by decide) (fun h_7 => ?_) (fun h_7 => ?_)
    · refine pw_aload_n (i := 0) C dX9_run_62 rfl rfl (Or.inr ⟨_, rfl⟩) ?_
      have c_8 := (o4 0 (by omega)).trans c_4
      refine pw_get (j := 2) C cl_X9 fl_X9_25 (by decide) rfl c_8 rfl dX9_run_63 ?_
      have hJ4 := c4.same (w' := w4) (fun k hk => (o4 k (by omega)).trans ((o3 k (by omega)).trans ((o2 k (by omega)).trans (o1 k (by omega)))))
      have hnz := nzC_le (f := f) len
      refine pw_callV (As := []) (st := []) C (m_X5_read g l hS4 hJ4 c5 c6 (by omega)) my_X5_read ml_X9_98 (hJ4.rec C) rfl ⟨Nat.le_of_ble_eq_true rfl, Nat.le_of_ble_eq_true rfl⟩ ⟨by (try dsimp only); omega, by (try dsimp only); omega⟩ rfl (Nat.le_of_ble_eq_true rfl) dX9_run_66 ?_
      rintro _ w5 ⟨z5, t5, n5, rfl, hS5, hx5, hn5, hJ5, hz5, o5⟩
      have hn50 := hS5.n
      have hx51 := hx5.1
      by_cases hr0 : (rTx f len).1 = 0
      · rw [if_pos hr0] at hz5
        have hz5r := Vl.rng hS5 hz5.1
        refine pw_stk (st' := [.int (iZ z5)]) rfl ?_
        refine pw_istore_n (i := 1) (lv' := [(0, .ref (A 0)), (1, .int (iZ z5))]) C dX9_run_69 rfl (by decide) rfl ?_
        refine pw_iload_n (i := 1) C dX9_run_70 rfl rfl ?_
        refine pw_iconst C dX9_run_71 ?_
        refine pw_icmp_ne (tgt := 77) C (by omega) (by omega) dX9_run_72 (by decide) (fun h_9 => ?_) (fun h_9 => ?_)
        · refine pw_aload_n (i := 0) C dX9_run_77 rfl rfl (Or.inr ⟨_, rfl⟩) ?_
          have c_10 := (o5 0 (by omega)).trans c_8
          refine pw_get (j := 6) C cl_X9 fl_X9_57 (by decide) rfl c_10 rfl dX9_run_78 ?_
          refine pw_iload_n (i := 1) C dX9_run_81 rfl rfl ?_
          have hF5 := c8.same (w' := w5) (fun k hk => (o5 k (by omega)).trans ((o4 k (by omega)).trans ((o3 k (by omega)).trans ((o2 k (by omega)).trans (o1 k (by omega))))))
          have hE5 := hE2.same (w' := w5) (fun k hk => (o5 k (by omega)).trans ((o4 k (by omega)).trans (o3 k (by omega))))
          have hM5 := c11.same (w' := w5) (fun k hk => (o5 k (by omega)).trans ((o4 k (by omega)).trans ((o3 k (by omega)).trans ((o2 k (by omega)).trans (o1 k (by omega))))))
          have c_11 := ((o5 20 (by omega)).trans (o4 20 (by omega))).trans c_6
          have hC5 : w5 20 = (A 20, some (cmE A rs kp)) := c_11
          have hD5 : DsT t5 kp ds T := c9.ext ⟨Int.le_refl _, fun i i0 i1 => hx5.2 i i0 i1⟩
          have hy1 := mxL_cdr (rTx f len).2.2; have hy2 := mxL_car (obCdr (rTx f len).2.2); have hy3 := mxL_cdr (obCdr (rTx f len).2.2); have hy4 := mxL_car (obCdr (obCdr (rTx f len).2.2)); have hy5 := spL_mx (obCar (obCdr (rTx f len).2.2)); have hy6 := spL_mx (obCar (obCdr (obCdr (rTx f len).2.2))); have hy7 := obLen_sp (obCar (obCdr (rTx f len).2.2)); have hy8 := obLen_sp (obCar (obCdr (obCdr (rTx f len).2.2))); have hy9 := hz5.2
          refine pw_callV (As := [.int (iZ z5)]) (st := []) C (m_X1_perform g l hS5 hC5 hF5 hD5 ⟨c13.1, by omega⟩ hM5 hE5 c14 c15 c16.2 (wd := ((min len 1000 : Nat) : Int)) hz5.1 ⟨by omega, by omega, by omega⟩ (by omega) (by omega)) my_X1_perform ml_X9_102 (pw_rec.of C hC5 cl_X1.1) rfl ⟨Nat.le_of_ble_eq_true rfl, Nat.le_of_ble_eq_true rfl⟩ ⟨by (try dsimp only); omega, by (try dsimp only); omega⟩ rfl (Nat.le_of_ble_eq_true rfl) dX9_run_82 ?_
          rw [show cmdF T fu nk (rTx f len).2.2 = (rnF T fu nk (rTx f len)) from by unfold rnF; rw [if_pos hr0]]
          rintro _ w6 ⟨t6, n6, rs6, kp6, D6, ds6, rfl, hS6, hx6, hn6, hF6, hD6, hk6, hE6, hM6, hC6, hr6, o6⟩
          have hTk : TOk (rnF T fu nk (rTx f len)).2 ∧ TSz (rnF T fu nk (rTx f len)).2 := by unfold rnF; rw [if_pos hr0]; exact cmdF_ok c14 c15
          have han : (rnF T fu nk (rTx f len)).1.1 ≤ 8 := by rw [show (rnF T fu nk (rTx f len)) = cmdF T fu nk (rTx f len).2.2 from by unfold rnF; rw [if_pos hr0]]; exact cmdF_an _ _ _ _
          refine pw_stk (st' := [.int (iZ (((rnF T fu nk (rTx f len)).1.1 : Nat) : Int))]) rfl ?_
          refine pw_istore_n (i := 2) (lv' := [(0, .ref (A 0)), (1, .int (iZ z5)), (2, .int (iZ (((rnF T fu nk (rTx f len)).1.1 : Nat) : Int)))]) C dX9_run_85 rfl (by decide) rfl ?_
          refine pw_iload_n (i := 2) C dX9_run_86 rfl rfl ?_
          refine pw_if_ne (tgt := 104) C (by omega) dX9_run_87 (by decide) (fun h_12 => ?_) (fun h_12 => ?_)
          · refine pw_iload_n (i := 2) C dX9_run_104 rfl rfl ?_
            refine pw_wide (600 + gc) (3900 + gs) (by (try dsimp only); omega) (by (try dsimp only); omega) ?_
            have c_13 := (o6 0 (by omega)).trans c_10
            refine pw_iret C hr dX9_run_105 ?_
            exact ⟨rfl, ⟨kp6, (rmZ (kp + XR)).toNat, ⟨t6, n6, rs6, D6, ds6, q, c_13, ((o6 1 (by omega)).trans ((o5 1 (by omega)).trans ((o4 1 (by omega)).trans ((o3 1 (by omega)).trans ((o2 1 (by omega)).trans (o1 1 (by omega))))))).trans c1, c2, hS6.same (fun k h1 h2 => rfl), hJ5.same (fun k hk => (o6 k (by omega))), c5, by omega, (by rw [show ouF (rnF T fu nk (rTx f len)).1 = [] from by unfold ouF; rw [if_neg (by omega)]]; exact hT1.same (fun k hk => (o6 k (by omega)).trans ((o5 k (by omega)).trans ((o4 k (by omega)).trans ((o3 k (by omega)).trans (o2 k (by omega))))))), hF6.same (fun k hk => rfl), hD6, hE6.same (fun k hk => rfl), hM6.same (fun k hk => rfl), hC6, ⟨hk6.1, hk6.2.1⟩, hTk.1, hTk.2, c16, fun k hk => by rw [show w6 k = w k from (o6 k (by omega)).trans ((o5 k (by omega)).trans ((o4 k (by omega)).trans ((o3 k (by omega)).trans ((o2 k (by omega)).trans (o1 k (by omega))))))]; exact c17 k hk⟩, by omega, hcq⟩, fun k hk => (o6 k (by omega)).trans ((o5 k (by omega)).trans ((o4 k (by omega)).trans ((o3 k (by omega)).trans ((o2 k (by omega)).trans (o1 k (by omega))))))⟩
          · refine pw_aload_n (i := 0) C dX9_run_90 rfl rfl (Or.inr ⟨_, rfl⟩) ?_
            have c_14 := (o6 0 (by omega)).trans c_10
            refine pw_get (j := 3) C cl_X9 fl_X9_32 (by decide) rfl c_14 rfl dX9_run_91 ?_
            refine pw_aload_n (i := 0) C dX9_run_94 rfl rfl (Or.inr ⟨_, rfl⟩) ?_
            refine pw_get (j := 6) C cl_X9 fl_X9_57 (by decide) rfl c_14 rfl dX9_run_95 ?_
            refine pw_getN (j := 4) C cl_X1 fn_X9_105 (by decide) rfl hC6 rfl dX9_run_98 ?_
            have hT6 := hT1.same (w' := w6) (fun k hk => (o6 k (by omega)).trans ((o5 k (by omega)).trans ((o4 k (by omega)).trans ((o3 k (by omega)).trans (o2 k (by omega))))))
            have hrs6 : -1 ≤ rs6 ∧ rs6 < n6 ∧ (if rs6 = -1 then [] else (otx (t6 rs6)).1) = ouF (rnF T fu nk (rTx f len)).1 := by
              have hn60 := hS6.n
              unfold ouF
              rw [if_pos (show (rnF T fu nk (rTx f len)).1.1 = 0 by omega)]
              cases hY : (rnF T fu nk (rTx f len)).1.2.1 with
              | none => rw [hY] at hr6; rw [show rs6 = -1 from hr6]; exact ⟨by omega, by omega, rfl⟩
              | some Y => rw [hY] at hr6; have h7 := hr6.1; exact ⟨by omega, hr6.2.1, by rw [if_neg (by omega), hr6.2.2]⟩
            refine pw_callV (As := [.int (iZ rs6)]) (st := []) C (m_X7_tell g l hS6 hT6 (x := rs6) ⟨hrs6.1, hrs6.2.1⟩) my_X7_tell ml_X9_108 (hT6.rec C) rfl ⟨Nat.le_of_ble_eq_true rfl, Nat.le_of_ble_eq_true rfl⟩ ⟨by (try dsimp only); omega, by (try dsimp only); omega⟩ rfl (Nat.le_of_ble_eq_true rfl) dX9_run_101 ?_
            rintro _ w7 ⟨rfl, ⟨q7, hT7⟩, o7⟩
            rw [hrs6.2.2, List.nil_append] at hT7
            refine pw_stk (st' := []) rfl ?_
            refine pw_iload_n (i := 2) C dX9_run_104 rfl rfl ?_
            refine pw_wide (600 + gc) (3900 + gs) (by (try dsimp only); omega) (by (try dsimp only); omega) ?_
            have c_15 := (o7 20 (by omega)).trans hC6
            have c_16 := (o7 0 (by omega)).trans c_14
            refine pw_iret C hr dX9_run_105 ?_
            exact ⟨rfl, ⟨kp6, (rmZ (kp + XR)).toNat, ⟨t6, n6, rs6, D6, ds6, q7, c_16, ((o7 1 (by omega)).trans ((o6 1 (by omega)).trans ((o5 1 (by omega)).trans ((o4 1 (by omega)).trans ((o3 1 (by omega)).trans ((o2 1 (by omega)).trans (o1 1 (by omega)))))))).trans c1, c2, hS6.same (fun k h1 h2 => (o7 k (by omega))), hJ5.same (fun k hk => (o7 k (by omega)).trans (o6 k (by omega))), c5, by omega, hT7, hF6.same (fun k hk => (o7 k (by omega))), hD6, hE6.same (fun k hk => (o7 k (by omega))), hM6.same (fun k hk => (o7 k (by omega))), c_15, ⟨hk6.1, hk6.2.1⟩, hTk.1, hTk.2, c16, fun k hk => by rw [show w7 k = w k from (o7 k (by omega)).trans ((o6 k (by omega)).trans ((o5 k (by omega)).trans ((o4 k (by omega)).trans ((o3 k (by omega)).trans ((o2 k (by omega)).trans (o1 k (by omega)))))))]; exact c17 k hk⟩, by omega, hcq⟩, fun k hk => (o7 k (by omega)).trans ((o6 k (by omega)).trans ((o5 k (by omega)).trans ((o4 k (by omega)).trans ((o3 k (by omega)).trans ((o2 k (by omega)).trans (o1 k (by omega)))))))⟩
        · exfalso; omega
      · rw [if_neg hr0] at hz5
        refine pw_stk (st' := [.int (iZ z5)]) rfl ?_
        refine pw_istore_n (i := 1) (lv' := [(0, .ref (A 0)), (1, .int (iZ z5))]) C dX9_run_69 rfl (by decide) rfl ?_
        refine pw_iload_n (i := 1) C dX9_run_70 rfl rfl ?_
        refine pw_iconst C dX9_run_71 ?_
        refine pw_icmp_ne (tgt := 77) C (by omega) (by omega) dX9_run_72 (by decide) (fun h_17 => ?_) (fun h_17 => ?_)
        · exfalso; omega
        · refine pw_iconst C dX9_run_75 ?_
          refine pw_wide (600 + gc) (3900 + gs) (by (try dsimp only); omega) (by (try dsimp only); omega) ?_
          have c_18 := ((o5 20 (by omega)).trans (o4 20 (by omega))).trans c_6
          have c_19 := (o5 0 (by omega)).trans c_8
          have hrn : (rnF T fu nk (rTx f len)) = ((1, none, 0, 0, nk), T) := by unfold rnF; rw [if_neg hr0]
          refine pw_iret C hr dX9_run_76 ?_
          rw [hrn]
          exact ⟨rfl, ⟨kp, (rmZ (kp + XR)).toNat, ⟨t5, n5, rs, D, ds, q, c_19, ((o5 1 (by omega)).trans ((o4 1 (by omega)).trans ((o3 1 (by omega)).trans ((o2 1 (by omega)).trans (o1 1 (by omega)))))).trans c1, c2, hS5, hJ5, c5, by omega, hT1.same (fun k hk => (o5 k (by omega)).trans ((o4 k (by omega)).trans ((o3 k (by omega)).trans (o2 k (by omega))))), c8.same (fun k hk => (o5 k (by omega)).trans ((o4 k (by omega)).trans ((o3 k (by omega)).trans ((o2 k (by omega)).trans (o1 k (by omega)))))), c9.ext ⟨Int.le_refl _, fun i i0 i1 => hx5.2 i i0 i1⟩, hE2.same (fun k hk => (o5 k (by omega)).trans ((o4 k (by omega)).trans (o3 k (by omega)))), c11.same (fun k hk => (o5 k (by omega)).trans ((o4 k (by omega)).trans ((o3 k (by omega)).trans ((o2 k (by omega)).trans (o1 k (by omega)))))), c_18, ⟨c13.1, by omega⟩, c14, c15, c16, fun k hk => by rw [show w5 k = w k from (o5 k (by omega)).trans ((o4 k (by omega)).trans ((o3 k (by omega)).trans ((o2 k (by omega)).trans (o1 k (by omega)))))]; exact c17 k hk⟩, by omega, hcq⟩, fun k hk => (o5 k (by omega)).trans ((o4 k (by omega)).trans ((o3 k (by omega)).trans ((o2 k (by omega)).trans (o1 k (by omega)))))⟩
    · exfalso; omega
  · refine pw_callV (As := [.int (iZ XR)]) (st := []) C (tr_makeRoom hS3.1 hS3.2.1 (by omega) (by omega)) my_X6_makeRoom ml_X9_93 (hS3.rec C) rfl ⟨Nat.le_of_ble_eq_true rfl, Nat.le_of_ble_eq_true rfl⟩ ⟨by (try dsimp only); omega, by (try dsimp only); omega⟩ rfl (Nat.le_of_ble_eq_true rfl) dX9_run_46 ?_
    rintro _ _ ⟨rfl, rfl⟩
    rw [decide_eq_true (show kp + XR ≤ ((cap : Nat) : Int) by omega)]
    have hcp' : kp + XR ≤ ((cap : Nat) : Int) := by omega
    have hcq : (cap : Nat) = (if (cap : Int) < rmZ (kp + XR) then (rmZ (kp + XR)).toNat else cap) := by rw [if_neg hgr]
    refine pw_stk (st' := [.int (iZ 1)]) rfl ?_
    refine pw_if_ne (tgt := 62) C (by omega) dX9_run_49 (by decide) (fun h_20 => ?_) (fun h_20 => ?_)
    · refine pw_aload_n (i := 0) C dX9_run_62 rfl rfl (Or.inr ⟨_, rfl⟩) ?_
      refine pw_get (j := 2) C cl_X9 fl_X9_25 (by decide) rfl c_4 rfl dX9_run_63 ?_
      have hJ4 := c4.same (w' := w3) (fun k hk => (o3 k (by omega)).trans ((o2 k (by omega)).trans (o1 k (by omega))))
      have hnz := nzC_le (f := f) len
      refine pw_callV (As := []) (st := []) C (m_X5_read g l hS3 hJ4 c5 c6 (by omega)) my_X5_read ml_X9_98 (hJ4.rec C) rfl ⟨Nat.le_of_ble_eq_true rfl, Nat.le_of_ble_eq_true rfl⟩ ⟨by (try dsimp only); omega, by (try dsimp only); omega⟩ rfl (Nat.le_of_ble_eq_true rfl) dX9_run_66 ?_
      rintro _ w5 ⟨z5, t5, n5, rfl, hS5, hx5, hn5, hJ5, hz5, o5⟩
      have hn50 := hS5.n
      have hx51 := hx5.1
      by_cases hr0 : (rTx f len).1 = 0
      · rw [if_pos hr0] at hz5
        have hz5r := Vl.rng hS5 hz5.1
        refine pw_stk (st' := [.int (iZ z5)]) rfl ?_
        refine pw_istore_n (i := 1) (lv' := [(0, .ref (A 0)), (1, .int (iZ z5))]) C dX9_run_69 rfl (by decide) rfl ?_
        refine pw_iload_n (i := 1) C dX9_run_70 rfl rfl ?_
        refine pw_iconst C dX9_run_71 ?_
        refine pw_icmp_ne (tgt := 77) C (by omega) (by omega) dX9_run_72 (by decide) (fun h_21 => ?_) (fun h_21 => ?_)
        · refine pw_aload_n (i := 0) C dX9_run_77 rfl rfl (Or.inr ⟨_, rfl⟩) ?_
          have c_22 := (o5 0 (by omega)).trans c_4
          refine pw_get (j := 6) C cl_X9 fl_X9_57 (by decide) rfl c_22 rfl dX9_run_78 ?_
          refine pw_iload_n (i := 1) C dX9_run_81 rfl rfl ?_
          have hF5 := c8.same (w' := w5) (fun k hk => (o5 k (by omega)).trans ((o3 k (by omega)).trans ((o2 k (by omega)).trans (o1 k (by omega)))))
          have hE5 := hE2.same (w' := w5) (fun k hk => (o5 k (by omega)).trans (o3 k (by omega)))
          have hM5 := c11.same (w' := w5) (fun k hk => (o5 k (by omega)).trans ((o3 k (by omega)).trans ((o2 k (by omega)).trans (o1 k (by omega)))))
          have c_23 := (o5 20 (by omega)).trans c_6
          have hC5 : w5 20 = (A 20, some (cmE A rs kp)) := c_23
          have hD5 : DsT t5 kp ds T := c9.ext ⟨Int.le_refl _, fun i i0 i1 => hx5.2 i i0 i1⟩
          have hy1 := mxL_cdr (rTx f len).2.2; have hy2 := mxL_car (obCdr (rTx f len).2.2); have hy3 := mxL_cdr (obCdr (rTx f len).2.2); have hy4 := mxL_car (obCdr (obCdr (rTx f len).2.2)); have hy5 := spL_mx (obCar (obCdr (rTx f len).2.2)); have hy6 := spL_mx (obCar (obCdr (obCdr (rTx f len).2.2))); have hy7 := obLen_sp (obCar (obCdr (rTx f len).2.2)); have hy8 := obLen_sp (obCar (obCdr (obCdr (rTx f len).2.2))); have hy9 := hz5.2
          refine pw_callV (As := [.int (iZ z5)]) (st := []) C (m_X1_perform g l hS5 hC5 hF5 hD5 ⟨c13.1, by omega⟩ hM5 hE5 c14 c15 c16.2 (wd := ((min len 1000 : Nat) : Int)) hz5.1 ⟨by omega, by omega, by omega⟩ (by omega) (by omega)) my_X1_perform ml_X9_102 (pw_rec.of C hC5 cl_X1.1) rfl ⟨Nat.le_of_ble_eq_true rfl, Nat.le_of_ble_eq_true rfl⟩ ⟨by (try dsimp only); omega, by (try dsimp only); omega⟩ rfl (Nat.le_of_ble_eq_true rfl) dX9_run_82 ?_
          rw [show cmdF T fu nk (rTx f len).2.2 = (rnF T fu nk (rTx f len)) from by unfold rnF; rw [if_pos hr0]]
          rintro _ w6 ⟨t6, n6, rs6, kp6, D6, ds6, rfl, hS6, hx6, hn6, hF6, hD6, hk6, hE6, hM6, hC6, hr6, o6⟩
          have hTk : TOk (rnF T fu nk (rTx f len)).2 ∧ TSz (rnF T fu nk (rTx f len)).2 := by unfold rnF; rw [if_pos hr0]; exact cmdF_ok c14 c15
          have han : (rnF T fu nk (rTx f len)).1.1 ≤ 8 := by rw [show (rnF T fu nk (rTx f len)) = cmdF T fu nk (rTx f len).2.2 from by unfold rnF; rw [if_pos hr0]]; exact cmdF_an _ _ _ _
          refine pw_stk (st' := [.int (iZ (((rnF T fu nk (rTx f len)).1.1 : Nat) : Int))]) rfl ?_
          refine pw_istore_n (i := 2) (lv' := [(0, .ref (A 0)), (1, .int (iZ z5)), (2, .int (iZ (((rnF T fu nk (rTx f len)).1.1 : Nat) : Int)))]) C dX9_run_85 rfl (by decide) rfl ?_
          refine pw_iload_n (i := 2) C dX9_run_86 rfl rfl ?_
          refine pw_if_ne (tgt := 104) C (by omega) dX9_run_87 (by decide) (fun h_24 => ?_) (fun h_24 => ?_)
          · refine pw_iload_n (i := 2) C dX9_run_104 rfl rfl ?_
            refine pw_wide (600 + gc) (3900 + gs) (by (try dsimp only); omega) (by (try dsimp only); omega) ?_
            have c_25 := (o6 0 (by omega)).trans c_22
            refine pw_iret C hr dX9_run_105 ?_
            exact ⟨rfl, ⟨kp6, cap, ⟨t6, n6, rs6, D6, ds6, q, c_25, ((o6 1 (by omega)).trans ((o5 1 (by omega)).trans ((o3 1 (by omega)).trans ((o2 1 (by omega)).trans (o1 1 (by omega)))))).trans c1, c2, hS6.same (fun k h1 h2 => rfl), hJ5.same (fun k hk => (o6 k (by omega))), c5, by omega, (by rw [show ouF (rnF T fu nk (rTx f len)).1 = [] from by unfold ouF; rw [if_neg (by omega)]]; exact hT1.same (fun k hk => (o6 k (by omega)).trans ((o5 k (by omega)).trans ((o3 k (by omega)).trans (o2 k (by omega)))))), hF6.same (fun k hk => rfl), hD6, hE6.same (fun k hk => rfl), hM6.same (fun k hk => rfl), hC6, ⟨hk6.1, hk6.2.1⟩, hTk.1, hTk.2, c16, fun k hk => by rw [show w6 k = w k from (o6 k (by omega)).trans ((o5 k (by omega)).trans ((o3 k (by omega)).trans ((o2 k (by omega)).trans (o1 k (by omega)))))]; exact c17 k hk⟩, by omega, hcq⟩, fun k hk => (o6 k (by omega)).trans ((o5 k (by omega)).trans ((o3 k (by omega)).trans ((o2 k (by omega)).trans (o1 k (by omega)))))⟩
          · refine pw_aload_n (i := 0) C dX9_run_90 rfl rfl (Or.inr ⟨_, rfl⟩) ?_
            have c_26 := (o6 0 (by omega)).trans c_22
            refine pw_get (j := 3) C cl_X9 fl_X9_32 (by decide) rfl c_26 rfl dX9_run_91 ?_
            refine pw_aload_n (i := 0) C dX9_run_94 rfl rfl (Or.inr ⟨_, rfl⟩) ?_
            refine pw_get (j := 6) C cl_X9 fl_X9_57 (by decide) rfl c_26 rfl dX9_run_95 ?_
            refine pw_getN (j := 4) C cl_X1 fn_X9_105 (by decide) rfl hC6 rfl dX9_run_98 ?_
            have hT6 := hT1.same (w' := w6) (fun k hk => (o6 k (by omega)).trans ((o5 k (by omega)).trans ((o3 k (by omega)).trans (o2 k (by omega)))))
            have hrs6 : -1 ≤ rs6 ∧ rs6 < n6 ∧ (if rs6 = -1 then [] else (otx (t6 rs6)).1) = ouF (rnF T fu nk (rTx f len)).1 := by
              have hn60 := hS6.n
              unfold ouF
              rw [if_pos (show (rnF T fu nk (rTx f len)).1.1 = 0 by omega)]
              cases hY : (rnF T fu nk (rTx f len)).1.2.1 with
              | none => rw [hY] at hr6; rw [show rs6 = -1 from hr6]; exact ⟨by omega, by omega, rfl⟩
              | some Y => rw [hY] at hr6; have h7 := hr6.1; exact ⟨by omega, hr6.2.1, by rw [if_neg (by omega), hr6.2.2]⟩
            refine pw_callV (As := [.int (iZ rs6)]) (st := []) C (m_X7_tell g l hS6 hT6 (x := rs6) ⟨hrs6.1, hrs6.2.1⟩) my_X7_tell ml_X9_108 (hT6.rec C) rfl ⟨Nat.le_of_ble_eq_true rfl, Nat.le_of_ble_eq_true rfl⟩ ⟨by (try dsimp only); omega, by (try dsimp only); omega⟩ rfl (Nat.le_of_ble_eq_true rfl) dX9_run_101 ?_
            rintro _ w7 ⟨rfl, ⟨q7, hT7⟩, o7⟩
            rw [hrs6.2.2, List.nil_append] at hT7
            refine pw_stk (st' := []) rfl ?_
            refine pw_iload_n (i := 2) C dX9_run_104 rfl rfl ?_
            refine pw_wide (600 + gc) (3900 + gs) (by (try dsimp only); omega) (by (try dsimp only); omega) ?_
            have c_27 := (o7 20 (by omega)).trans hC6
            have c_28 := (o7 0 (by omega)).trans c_26
            refine pw_iret C hr dX9_run_105 ?_
            exact ⟨rfl, ⟨kp6, cap, ⟨t6, n6, rs6, D6, ds6, q7, c_28, ((o7 1 (by omega)).trans ((o6 1 (by omega)).trans ((o5 1 (by omega)).trans ((o3 1 (by omega)).trans ((o2 1 (by omega)).trans (o1 1 (by omega))))))).trans c1, c2, hS6.same (fun k h1 h2 => (o7 k (by omega))), hJ5.same (fun k hk => (o7 k (by omega)).trans (o6 k (by omega))), c5, by omega, hT7, hF6.same (fun k hk => (o7 k (by omega))), hD6, hE6.same (fun k hk => (o7 k (by omega))), hM6.same (fun k hk => (o7 k (by omega))), c_27, ⟨hk6.1, hk6.2.1⟩, hTk.1, hTk.2, c16, fun k hk => by rw [show w7 k = w k from (o7 k (by omega)).trans ((o6 k (by omega)).trans ((o5 k (by omega)).trans ((o3 k (by omega)).trans ((o2 k (by omega)).trans (o1 k (by omega))))))]; exact c17 k hk⟩, by omega, hcq⟩, fun k hk => (o7 k (by omega)).trans ((o6 k (by omega)).trans ((o5 k (by omega)).trans ((o3 k (by omega)).trans ((o2 k (by omega)).trans (o1 k (by omega))))))⟩
        · exfalso; omega
      · rw [if_neg hr0] at hz5
        refine pw_stk (st' := [.int (iZ z5)]) rfl ?_
        refine pw_istore_n (i := 1) (lv' := [(0, .ref (A 0)), (1, .int (iZ z5))]) C dX9_run_69 rfl (by decide) rfl ?_
        refine pw_iload_n (i := 1) C dX9_run_70 rfl rfl ?_
        refine pw_iconst C dX9_run_71 ?_
        refine pw_icmp_ne (tgt := 77) C (by omega) (by omega) dX9_run_72 (by decide) (fun h_29 => ?_) (fun h_29 => ?_)
        · exfalso; omega
        · refine pw_iconst C dX9_run_75 ?_
          refine pw_wide (600 + gc) (3900 + gs) (by (try dsimp only); omega) (by (try dsimp only); omega) ?_
          have c_30 := (o5 20 (by omega)).trans c_6
          have c_31 := (o5 0 (by omega)).trans c_4
          have hrn : (rnF T fu nk (rTx f len)) = ((1, none, 0, 0, nk), T) := by unfold rnF; rw [if_neg hr0]
          refine pw_iret C hr dX9_run_76 ?_
          rw [hrn]
          exact ⟨rfl, ⟨kp, cap, ⟨t5, n5, rs, D, ds, q, c_31, ((o5 1 (by omega)).trans ((o3 1 (by omega)).trans ((o2 1 (by omega)).trans (o1 1 (by omega))))).trans c1, c2, hS5, hJ5, c5, by omega, hT1.same (fun k hk => (o5 k (by omega)).trans ((o3 k (by omega)).trans (o2 k (by omega)))), c8.same (fun k hk => (o5 k (by omega)).trans ((o3 k (by omega)).trans ((o2 k (by omega)).trans (o1 k (by omega))))), c9.ext ⟨Int.le_refl _, fun i i0 i1 => hx5.2 i i0 i1⟩, hE2.same (fun k hk => (o5 k (by omega)).trans (o3 k (by omega))), c11.same (fun k hk => (o5 k (by omega)).trans ((o3 k (by omega)).trans ((o2 k (by omega)).trans (o1 k (by omega))))), c_30, ⟨c13.1, by omega⟩, c14, c15, c16, fun k hk => by rw [show w5 k = w k from (o5 k (by omega)).trans ((o3 k (by omega)).trans ((o2 k (by omega)).trans (o1 k (by omega))))]; exact c17 k hk⟩, by omega, hcq⟩, fun k hk => (o5 k (by omega)).trans ((o3 k (by omega)).trans ((o2 k (by omega)).trans (o1 k (by omega))))⟩
    · exfalso; omega

