theorem cmd_e {T : List Dn} {fu nk : Nat} {X : Ob} (h : kIx (obCar X) = 17) : cmdF T fu nk X = ((if obLen X = 2 then evC T fu nk oNil oNil (obCar (obCdr X)) else (2, none, 0, 0, nk)), T) := by
  unfold cmdF
  rw [h]
  show (if obLen X = 2 then _ else cB T nk) = _
  by_cases c : obLen X = 2
  · simp only [if_pos c]
  · simp only [if_neg c]; rfl
theorem cmd_w {T : List Dn} {fu nk : Nat} {X : Ob} (h : kIx (obCar X) = 18) : cmdF T fu nk X = (wtC T fu nk X, T) := by
  unfold cmdF
  rw [h]
  show (if obLen X = 3 then _ else cB T nk) = _
  by_cases c : obLen X = 3
  · unfold wtC; simp only [if_pos c]; cases bVs (obCar (obCdr X)) <;> rfl
  · unfold wtC; simp only [if_neg c]; rfl
theorem cmd_m {T : List Dn} {fu nk : Nat} {X : Ob} (h : kIx (obCar X) = 19) : cmdF T fu nk X = (mpC T fu nk X, T) := by
  unfold cmdF
  rw [h]
  show (if obLen X = 3 then _ else cB T nk) = _
  by_cases c : obLen X = 3
  · unfold mpC; simp only [if_pos c]
  · unfold mpC; simp only [if_neg c]; rfl
theorem cmd_d {T : List Dn} {fu nk : Nat} {X : Ob} (h : kIx (obCar X) = 20) : cmdF T fu nk X = ((if obLen X = 4 then ((defC T (obCar (obCdr X)) (obCar (obCdr (obCdr X))) (obCar (obCdr (obCdr (obCdr X))))).1, none, 0, 0, nk) else (2, none, 0, 0, nk)), (if obLen X = 4 then (defC T (obCar (obCdr X)) (obCar (obCdr (obCdr X))) (obCar (obCdr (obCdr (obCdr X))))).2 else T)) := by
  unfold cmdF
  rw [h]
  show (if obLen X = 4 then _ else cB T nk) = _
  by_cases c : obLen X = 4
  · simp only [if_pos c]
  · simp only [if_neg c]; rfl
theorem cmd_r {T : List Dn} {fu nk : Nat} {X : Ob} (h : kIx (obCar X) = 21) : cmdF T fu nk X = ((if obLen X = 4 then ((redoC T (obCar (obCdr X)) (obCar (obCdr (obCdr X))) (obCar (obCdr (obCdr (obCdr X))))).1, none, 0, 0, nk) else (2, none, 0, 0, nk)), (if obLen X = 4 then (redoC T (obCar (obCdr X)) (obCar (obCdr (obCdr X))) (obCar (obCdr (obCdr (obCdr X))))).2 else T)) := by
  unfold cmdF
  rw [h]
  show (if obLen X = 4 then _ else cB T nk) = _
  by_cases c : obLen X = 4
  · simp only [if_pos c]
  · simp only [if_neg c]; rfl
theorem cmd_u {T : List Dn} {fu nk : Nat} {X : Ob} (h : kIx (obCar X) = 22) : cmdF T fu nk X = ((if obLen X = 1 then ((undoC T).1, none, 0, 0, nk) else (2, none, 0, 0, nk)), (if obLen X = 1 then (undoC T).2 else T)) := by
  unfold cmdF
  rw [h]
  show (if obLen X = 1 then _ else cB T nk) = _
  by_cases c : obLen X = 1
  · simp only [if_pos c]
  · simp only [if_neg c]; rfl
theorem cmd_s {T : List Dn} {fu nk : Nat} {X : Ob} (h : kIx (obCar X) = 23) : cmdF T fu nk X = ((if obLen X = 2 then ((showC T (obCar (obCdr X))).1, (showC T (obCar (obCdr X))).2, 0, 0, nk) else (2, none, 0, 0, nk)), T) := by
  unfold cmdF
  rw [h]
  show (if obLen X = 2 then _ else cB T nk) = _
  by_cases c : obLen X = 2
  · simp only [if_pos c]
  · simp only [if_neg c]; rfl
theorem cmd_n {T : List Dn} {fu nk : Nat} {X : Ob} (h : kIx (obCar X) < 17 ∨ 23 < kIx (obCar X)) : cmdF T fu nk X = ((2, none, 0, 0, nk), T) := by
  unfold cmdF
  split <;> first | rfl | omega
theorem undo_pre (T : List Dn) : ∃ E, plT T = plT (undoC T).2 ++ E := by
  unfold undoC
  split
  · exact ⟨[], (List.append_nil _).symm⟩
  · rename_i d hd
    split
    · exact ⟨[], (List.append_nil _).symm⟩
    · obtain ⟨e, he⟩ := List.getLast?_eq_some_iff.mp hd
      refine ⟨[plD d], ?_⟩
      rw [he]
      simp [plT]
set_option maxRecDepth 100000 in
set_option maxHeartbeats 4000000 in
/-- command -/
theorem m_X10_command (g : pw_P) (l : Launch) {w : pw_W} {b : Nat} {B : Nat → Nat} {x : Nat → Int} {t : Int → Ob} {n : Int} {sN : Nat} {fZ : Int → Int} {T : List Dn} {fu : Nat} (hC : CmW g w b B x t n sN fZ (plT T) [] fu 0 0 0) {o : Int} {X : Ob} (ho : Vl t n o X) (hfu : fu ≤ 1000) (hTo0 : TOk T) (hTn0 : TNs T) (hnd : (nd2 X).1 ≤ 1000) {nk : Nat} (hTz : TSz T) (hcap : n + 6020 ≤ 40000) : pw_M g l yX10_command cX10_command 2 (some .int) { frames := 8, cells := 0, slots := 0, locals := 186 } [.ref b, .int (iZ o)] w (fun r w' => rCg g w w' b B x t n sN fu (plT T) (plT (cmdF T fu nk X).2) (cmdF T fu nk X).1 (nd2 X).1 6010 r) := by
  refine pw_M.of (by decide) (Nat.le_of_ble_eq_true rfl) rfl ?_
  intro p e s m args below meth c C hr hn
  obtain ⟨h0, hR, hK, hD, ⟨hBt, hWk, hIt, hEv, hTp, hTl, hMp⟩, hO, h7, h10, h32, h37, h39, h40, h41, h45, h47, h69, h38⟩ := id hC
  have hRn := hR.n
  have hor := Vl.rg hR ho
  have hTo := hTo0.pl
  have hTn := hTn0.pl
  have hDl : ∀ d ∈ plT T, 0 ≤ obLen d.2.1 := fun d hd => (hTo d hd).2.1
  have hT6 : ∀ d ∈ plT T, obLen d.2.1 ≤ 6 := fun d hd => (hTo d hd).2.2.1
  obtain ⟨fL, fR, fH, fV, l0, l1, l4, l5, ⟨m0, m1, m4, m5⟩, hln⟩ := RS.lens hR
  refine pw_aload_n (i := 0) C dX10_command_0 rfl rfl (Or.inr ⟨_, rfl⟩) ?_
  refine pw_iload_n (i := 1) C dX10_command_1 rfl rfl ?_
  refine pw_callV (As := [.int (iZ o)]) (st := []) C (m_X10_isPair g l h0 hR h7 h10 ho) my_X10_isPair ml_X10_195 (pw_rec.of C h0 cl_X10.1) rfl ⟨Nat.le_of_ble_eq_true rfl, Nat.le_of_ble_eq_true rfl⟩ ⟨by (try dsimp only); omega, by (try dsimp only); omega⟩ rfl (Nat.le_of_ble_eq_true rfl) dX10_command_2 ?_
  rintro _ _ ⟨rfl, rfl⟩
  refine pw_stk (st' := [.int (iZ (b2i (obP X)))]) rfl ?_
  refine pw_if_neB (tgt := 10) C dX10_command_5 (by decide) (fun h_1 => ?_) (fun h_1 => ?_)
  · have hp := h_1
    have hcc := (hln o X ho).1 hp
    have hcr := Vl.rg hR hcc.1
    refine pw_aload_n (i := 0) C dX10_command_10 rfl rfl (Or.inr ⟨_, rfl⟩) ?_
    refine pw_get (j := 0) C cl_X10 fl_X10_8 (by decide) rfl h0 rfl dX10_command_11 ?_
    refine pw_stk (st' := [.ref (B 0)]) rfl ?_
    refine pw_iload_n (i := 1) C dX10_command_14 rfl rfl ?_
    have g_2 := m0 o
    refine pw_iald C l0 ⟨by omega, by omega, by omega⟩ dX10_command_15 ?_
    by_cases h_3 : (fL o) = 17
    · refine pw_tsIn (tgt := 78) (off := 62) C dX10_command_16 (by omega) (by omega) (by omega) (by rw [h_3]; rfl) (by decide) ?_
      have hcd := cmd_d (T := T) (fu := fu) (nk := nk) (X := X) (by rw [RK.kix hR hK hcc.1, h_3]; rfl)
      refine pw_aload_n (i := 0) C dX10_command_78 rfl rfl (Or.inr ⟨_, rfl⟩) ?_
      refine pw_iload_n (i := 1) C dX10_command_79 rfl rfl ?_
      refine pw_iconst C dX10_command_80 ?_
      refine pw_callV (As := [.int (iZ o), .int (iZ 0)]) (st := []) C (m_X10_defun g l hC ho hfu hTo0 hTn0 hnd (nk := nk) (by omega)) my_X10_defun ml_X10_470 (pw_rec.of C h0 cl_X10.1) rfl ⟨Nat.le_of_ble_eq_true rfl, Nat.le_of_ble_eq_true rfl⟩ ⟨by (try dsimp only); omega, by (try dsimp only); omega⟩ rfl (Nat.le_of_ble_eq_true rfl) dX10_command_81 ?_
      rintro _ w9 ⟨x9, t9, n9, s9, Z9, tk9, rfl, hC9, hx9, hn9, hh9⟩
      refine pw_stk (st' := [.int (iZ (((if obLen X = 4 then ((defC T (obCar (obCdr X)) (obCar (obCdr (obCdr X))) (obCar (obCdr (obCdr (obCdr X))))).1, none, 0, 0, nk) else (2, none, 0, 0, nk)).1 : Nat) : Int))]) rfl ?_
      exact pw_iret C hr dX10_command_84 (rCg.of (by rw [hcd]) (by rw [hcd]) ⟨x9, t9, n9, s9, Z9, tk9, rfl, hC9, hx9, by omega, hh9⟩)
    by_cases h_4 : (fL o) = 18
    · refine pw_tsIn (tgt := 60) (off := 44) C dX10_command_16 (by omega) (by omega) (by omega) (by rw [h_4]; rfl) (by decide) ?_
      have hcd := cmd_e (T := T) (fu := fu) (nk := nk) (X := X) (by rw [RK.kix hR hK hcc.1, h_4]; rfl)
      refine pw_aload_n (i := 0) C dX10_command_60 rfl rfl (Or.inr ⟨_, rfl⟩) ?_
      refine pw_iload_n (i := 1) C dX10_command_61 rfl rfl ?_
      refine pw_callV (As := [.int (iZ o)]) (st := []) C (m_X10_eval g l hC ho hfu hTo0 hTn0 hnd (nk := nk) (by omega)) my_X10_eval ml_X10_461 (pw_rec.of C h0 cl_X10.1) rfl ⟨Nat.le_of_ble_eq_true rfl, Nat.le_of_ble_eq_true rfl⟩ ⟨by (try dsimp only); omega, by (try dsimp only); omega⟩ rfl (Nat.le_of_ble_eq_true rfl) dX10_command_62 ?_
      rintro _ w9 ⟨x9, t9, n9, s9, Z9, rfl, hh9⟩
      refine pw_stk (st' := [.int (iZ (((if obLen X = 2 then evC T fu nk oNil oNil (obCar (obCdr X)) else (2, none, 0, 0, nk)).1 : Nat) : Int))]) rfl ?_
      exact pw_iret C hr dX10_command_65 (rCg.of (by rw [hcd]) (by rw [hcd]) (rCc.g (R := (if obLen X = 2 then evC T fu nk oNil oNil (obCar (obCdr X)) else (2, none, 0, 0, nk))) (T := plT T) ⟨x9, t9, n9, s9, Z9, rfl, hh9⟩ ⟨[], (List.append_nil _).symm⟩ (by decide)))
    by_cases h_5 : (fL o) = 19
    · refine pw_tsIn (tgt := 66) (off := 50) C dX10_command_16 (by omega) (by omega) (by omega) (by rw [h_5]; rfl) (by decide) ?_
      have hcd := cmd_w (T := T) (fu := fu) (nk := nk) (X := X) (by rw [RK.kix hR hK hcc.1, h_5]; rfl)
      refine pw_aload_n (i := 0) C dX10_command_66 rfl rfl (Or.inr ⟨_, rfl⟩) ?_
      refine pw_iload_n (i := 1) C dX10_command_67 rfl rfl ?_
      refine pw_callV (As := [.int (iZ o)]) (st := []) C (m_X10_with g l hC ho hfu hTo0 hTn0 hnd (nk := nk) (by omega)) my_X10_with ml_X10_464 (pw_rec.of C h0 cl_X10.1) rfl ⟨Nat.le_of_ble_eq_true rfl, Nat.le_of_ble_eq_true rfl⟩ ⟨by (try dsimp only); omega, by (try dsimp only); omega⟩ rfl (Nat.le_of_ble_eq_true rfl) dX10_command_68 ?_
      rintro _ w9 ⟨x9, t9, n9, s9, Z9, rfl, hh9⟩
      refine pw_stk (st' := [.int (iZ (((wtC T fu nk X).1 : Nat) : Int))]) rfl ?_
      exact pw_iret C hr dX10_command_71 (rCg.of (by rw [hcd]) (by rw [hcd]) (rCc.g (R := (wtC T fu nk X)) (T := plT T) ⟨x9, t9, n9, s9, Z9, rfl, hh9⟩ ⟨[], (List.append_nil _).symm⟩ (by decide)))
    by_cases h_6 : (fL o) = 20
    · refine pw_tsIn (tgt := 72) (off := 56) C dX10_command_16 (by omega) (by omega) (by omega) (by rw [h_6]; rfl) (by decide) ?_
      have hcd := cmd_m (T := T) (fu := fu) (nk := nk) (X := X) (by rw [RK.kix hR hK hcc.1, h_6]; rfl)
      refine pw_aload_n (i := 0) C dX10_command_72 rfl rfl (Or.inr ⟨_, rfl⟩) ?_
      refine pw_iload_n (i := 1) C dX10_command_73 rfl rfl ?_
      refine pw_callV (As := [.int (iZ o)]) (st := []) C (m_X10_map g l hC ho hfu hTo0 hTn0 hnd (nk := nk) (by omega)) my_X10_map ml_X10_467 (pw_rec.of C h0 cl_X10.1) rfl ⟨Nat.le_of_ble_eq_true rfl, Nat.le_of_ble_eq_true rfl⟩ ⟨by (try dsimp only); omega, by (try dsimp only); omega⟩ rfl (Nat.le_of_ble_eq_true rfl) dX10_command_74 ?_
      rintro _ w9 ⟨x9, t9, n9, s9, Z9, rfl, hh9⟩
      refine pw_stk (st' := [.int (iZ (((mpC T fu nk X).1 : Nat) : Int))]) rfl ?_
      exact pw_iret C hr dX10_command_77 (rCg.of (by rw [hcd]) (by rw [hcd]) (rCc.g (R := (mpC T fu nk X)) (T := plT T) ⟨x9, t9, n9, s9, Z9, rfl, hh9⟩ ⟨[], (List.append_nil _).symm⟩ (by decide)))
    by_cases h_7 : (fL o) = 21
    · refine pw_tsIn (tgt := 85) (off := 69) C dX10_command_16 (by omega) (by omega) (by omega) (by rw [h_7]; rfl) (by decide) ?_
      have hcd := cmd_r (T := T) (fu := fu) (nk := nk) (X := X) (by rw [RK.kix hR hK hcc.1, h_7]; rfl)
      refine pw_aload_n (i := 0) C dX10_command_85 rfl rfl (Or.inr ⟨_, rfl⟩) ?_
      refine pw_iload_n (i := 1) C dX10_command_86 rfl rfl ?_
      refine pw_iconst C dX10_command_87 ?_
      refine pw_callV (As := [.int (iZ o), .int (iZ 1)]) (st := []) C (m_X10_redo g l hC ho hfu hTo0 hTn0 hnd (nk := nk) (by omega)) my_X10_defun ml_X10_470 (pw_rec.of C h0 cl_X10.1) rfl ⟨Nat.le_of_ble_eq_true rfl, Nat.le_of_ble_eq_true rfl⟩ ⟨by (try dsimp only); omega, by (try dsimp only); omega⟩ rfl (Nat.le_of_ble_eq_true rfl) dX10_command_88 ?_
      rintro _ w9 ⟨x9, t9, n9, s9, Z9, tk9, rfl, hC9, hx9, hn9, hh9⟩
      refine pw_stk (st' := [.int (iZ (((if obLen X = 4 then ((redoC T (obCar (obCdr X)) (obCar (obCdr (obCdr X))) (obCar (obCdr (obCdr (obCdr X))))).1, none, 0, 0, nk) else (2, none, 0, 0, nk)).1 : Nat) : Int))]) rfl ?_
      exact pw_iret C hr dX10_command_91 (rCg.of (by rw [hcd]) (by rw [hcd]) ⟨x9, t9, n9, s9, Z9, tk9, rfl, hC9, hx9, by omega, hh9⟩)
    by_cases h_8 : (fL o) = 22
    · refine pw_tsIn (tgt := 92) (off := 76) C dX10_command_16 (by omega) (by omega) (by omega) (by rw [h_8]; rfl) (by decide) ?_
      have hcd := cmd_u (T := T) (fu := fu) (nk := nk) (X := X) (by rw [RK.kix hR hK hcc.1, h_8]; rfl)
      refine pw_aload_n (i := 0) C dX10_command_92 rfl rfl (Or.inr ⟨_, rfl⟩) ?_
      refine pw_iload_n (i := 1) C dX10_command_93 rfl rfl ?_
      refine pw_callV (As := [.int (iZ o)]) (st := []) C (m_X10_undo g l hC ho hfu hTo0 hTn0 hnd (nk := nk) hTz) my_X10_undo ml_X10_473 (pw_rec.of C h0 cl_X10.1) rfl ⟨Nat.le_of_ble_eq_true rfl, Nat.le_of_ble_eq_true rfl⟩ ⟨by (try dsimp only); omega, by (try dsimp only); omega⟩ rfl (Nat.le_of_ble_eq_true rfl) dX10_command_94 ?_
      rintro _ w9 ⟨x9, t9, n9, s9, Z9, rfl, hh9⟩
      refine pw_stk (st' := [.int (iZ (((if obLen X = 1 then ((undoC T).1, none, 0, 0, nk) else (2, none, 0, 0, nk)).1 : Nat) : Int))]) rfl ?_
      exact pw_iret C hr dX10_command_97 (rCg.of (by rw [hcd]) (by rw [hcd]) (rCc.g (R := (if obLen X = 1 then ((undoC T).1, none, 0, 0, nk) else (2, none, 0, 0, nk))) (T := plT (if obLen X = 1 then (undoC T).2 else T)) ⟨x9, t9, n9, s9, Z9, rfl, hh9⟩ (by by_cases c : obLen X = 1 <;> simp only [c, if_true, if_false] <;> first | exact undo_pre T | exact ⟨[], (List.append_nil _).symm⟩) (by decide)))
    by_cases h_9 : (fL o) = 23
    · refine pw_tsIn (tgt := 98) (off := 82) C dX10_command_16 (by omega) (by omega) (by omega) (by rw [h_9]; rfl) (by decide) ?_
      have hcd := cmd_s (T := T) (fu := fu) (nk := nk) (X := X) (by rw [RK.kix hR hK hcc.1, h_9]; rfl)
      refine pw_aload_n (i := 0) C dX10_command_98 rfl rfl (Or.inr ⟨_, rfl⟩) ?_
      refine pw_iload_n (i := 1) C dX10_command_99 rfl rfl ?_
      refine pw_callV (As := [.int (iZ o)]) (st := []) C (m_X10_show g l hC ho hfu hTo0 hTn0 hnd (nk := nk) (by omega)) my_X10_show ml_X10_476 (pw_rec.of C h0 cl_X10.1) rfl ⟨Nat.le_of_ble_eq_true rfl, Nat.le_of_ble_eq_true rfl⟩ ⟨by (try dsimp only); omega, by (try dsimp only); omega⟩ rfl (Nat.le_of_ble_eq_true rfl) dX10_command_100 ?_
      rintro _ w9 ⟨x9, t9, n9, s9, Z9, rfl, hh9⟩
      refine pw_stk (st' := [.int (iZ (((if obLen X = 2 then ((showC T (obCar (obCdr X))).1, (showC T (obCar (obCdr X))).2, 0, 0, nk) else (2, none, 0, 0, nk)).1 : Nat) : Int))]) rfl ?_
      exact pw_iret C hr dX10_command_103 (rCg.of (by rw [hcd]) (by rw [hcd]) (rCc.g (R := (if obLen X = 2 then ((showC T (obCar (obCdr X))).1, (showC T (obCar (obCdr X))).2, 0, 0, nk) else (2, none, 0, 0, nk))) (T := plT T) ⟨x9, t9, n9, s9, Z9, rfl, hh9⟩ ⟨[], (List.append_nil _).symm⟩ (by decide)))
    refine pw_tsOut (tgt := 104) C dX10_command_16 (by omega) (by omega) (by decide) ?_
    refine pw_iconst C dX10_command_104 ?_
    have hkx : kIx (obCar X) < 17 ∨ 23 < kIx (obCar X) := by
      rw [RK.kix hR hK hcc.1]
      by_cases c : fL o < 24
      · rw [if_pos c]; have key : ∀ j : Fin 17, pm j.val < 17 := by decide
        exact Or.inl (key ⟨(fL o).toNat, by omega⟩)
      · rw [if_neg c]; exact Or.inr (by decide)
    have hcd := cmd_n (T := T) (fu := fu) (nk := nk) (X := X) hkx
    exact pw_iret C hr dX10_command_105 (rCg.of (T0 := plT T) (by rw [hcd]) (R0 := (2, none, 0, 0, nk)) (by rw [hcd]) ⟨x, t, n, sN, fZ, 0, rfl, ⟨h0, hR, hK, hD, ⟨hBt, hWk, hIt, hEv, hTp, hTl, hMp⟩, hO, h7, h10, h32, h37, h39, h40, h41, h45, h47, h69, h38⟩, Ext.rf, by omega, by omega, ⟨rfl, rfl, rfl⟩, fun k hk => rfl, Or.inl ⟨rfl, fun k hk => rfl, [], (List.append_nil _).symm⟩⟩)
  · have hnp := h_1
    refine pw_iconst C dX10_command_8 ?_
    have hcd := cmd_n (T := T) (fu := fu) (nk := nk) (X := X) (Or.inl (show kIx (obCar X) < 17 from by rw [(obLen_car hnp).1, oNil_yK, kIx_k 0 (by decide)]; decide))
    exact pw_iret C hr dX10_command_9 (rCg.of (T0 := plT T) (by rw [hcd]) (R0 := (2, none, 0, 0, nk)) (by rw [hcd]) ⟨x, t, n, sN, fZ, 0, rfl, ⟨h0, hR, hK, hD, ⟨hBt, hWk, hIt, hEv, hTp, hTl, hMp⟩, hO, h7, h10, h32, h37, h39, h40, h41, h45, h47, h69, h38⟩, Ext.rf, by omega, by omega, ⟨rfl, rfl, rfl⟩, fun k hk => rfl, Or.inl ⟨rfl, fun k hk => rfl, [], (List.append_nil _).symm⟩⟩)

