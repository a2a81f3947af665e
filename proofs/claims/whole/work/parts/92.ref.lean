theorem fn_def {g : pw_P} {w : pw_W} {B : Nat → Nat} {t : Int → Ob} {n z : Int} {s : Nat} {fZ : Int → Int} {T : List Dn} {N : Ob} (hR : RS g w B t n s fZ) (hK : RK t n) (hz : Vl t n z N) (hT : TNs T) : (100 ≤ fnZ (-1) z T N ∧ ∃ (i : Nat) (d : Dn), fnZ (-1) z T N = 100 + (i : Int) ∧ T[i]? = some d ∧ dLk T N = some d) ∨ (fnZ (-1) z T N < 100 ∧ dLk T N = none ∧ (4 ≤ kIx N ∧ kIx N ≤ 16 → fnZ (-1) z T N = z ∧ kIx N = pm z.toNat ∧ 4 ≤ z ∧ z ≤ 16)) := by
  have h0 := hz.1
  have hrv := (RK.rsv hR hK hz).2
  have hk := RK.kix hR hK hz
  by_cases q1 : 3 ≤ z ∧ z ≤ 16
  · have e : fnZ (-1) z T N = z := by unfold fnZ; rw [if_pos q1]
    refine Or.inr ⟨by omega, ?_, fun hq => ⟨e, by rw [hk, if_pos (by omega)], ?_, q1.2⟩⟩
    · cases hd : dLk T N with
      | none => rfl
      | some d => have := (hT.lk hd).1; omega
    · by_cases q3 : z = 3
      · rw [hk, if_pos (by omega), q3] at hq
        exact absurd hq.1 (by decide)
      · omega
  · have e : fnZ (-1) z T N = oIx (dIx T N 0) 100 := by unfold fnZ; rw [if_neg q1, if_neg (by omega)]
    rw [e]
    cases hd : dIx T N 0 with
    | none => exact Or.inr ⟨by show (-1 : Int) < 100; decide, dIx_none.mp hd, fun hq => absurd (hrv.mpr ⟨by omega, hq.2⟩) q1⟩
    | some j =>
      obtain ⟨d, k1, k2, k3, k4, k5⟩ := dIx_get hd
      rw [Nat.sub_zero] at k1
      exact Or.inl ⟨by show 100 ≤ 100 + (j : Int); omega, j, d, rfl, k1, k5⟩
theorem arB_1 : ∀ k : Nat, 4 ≤ k → k ≤ 16 → 1 ≤ arB k ∧ (k ≤ 9 → arB k = 2) := by
  intro k h1 h2
  have key : ∀ j : Fin 17, 4 ≤ j.val → 1 ≤ arB j.val ∧ (j.val ≤ 9 → arB j.val = 2) := by decide
  exact key ⟨k, by omega⟩ h1
abbrev goF (w w' : pw_W) : Prop := ∀ k, (k < 1000 ∨ k = 1008 ∨ (1010 < k ∧ k < 1056) ∨ 1063 < k) → w' k = w k
set_option maxRecDepth 100000 in
set_option maxHeartbeats 4000000 in
/-- goOn -/
theorem m_X10_goOn (g : pw_P) (l : Launch) {w : pw_W} {b : Nat} {B : Nat → Nat} {x : Nat → Int} {T : List Dn} {be : Bds} {fu : Nat} {NB : Int} {s0 : Nat} {S : List Fr} {k : Nat} {vl li : Int} {t : Int → Ob} {n : Int} {sN : Nat} {fZ g1 g2 g3 g4 g5 g6 fv : Int → Int} (h39 : x 39 = ((fu : Nat) : Int)) (h32 : x 32 = ((T.length : Nat) : Int)) (h37 : x 37 = -1) (hfu : fu ≤ 1000) (hTo : TOk T) (hTn : TNs T) (hNB4 : NB ≤ 40000) {nm r : Ob} {vs : List Ob} {e1 : Bds} (hM : EvM g w b B x T be fu NB s0 0 ((nm, r, vs, e1, false) :: S) k 0 0 vl li t n sN fZ g1 g2 g3 g4 g5 g6 fv) (hok0 : FrOk T 0 (nm, r, vs, e1, false)) (hok : FrsOk T S) : pw_M g l yX10_goOn cX10_goOn 4 none { frames := 4, cells := 0, slots := 0, locals := 88 } [.ref b, .int (iZ 0)] w (fun r0 w' => r0 = none ∧ (∀ (m nk : Nat) (R : Nat × Ob × Nat × Nat), mRun T fu m 2 oNil [] ((nm, r, vs, e1, false) :: S) k nk = R → R.1 ≠ 9 → EvT g w' b B x T be fu NB s0 t n (2 * m) R) ∧ goF w w') := by
  refine pw_M.of (by decide) (Nat.le_of_ble_eq_true rfl) rfl ?_
  intro p e s m args below meth c C hr hn
  obtain ⟨a1, hR, hK, hD, hBd, hA, hFr, ⟨hSl, hkf⟩, hNB, hs0⟩ := id hM
  obtain ⟨b1, b2, b3, b4, b5, b6, b7, r1, r2, r3, r4, r5, r6, r7⟩ := id hA
  have hRn := hR.n
  obtain ⟨⟨X0, x1, x2, x3, x4⟩, y2, y3, y4, y5, y6, y7, y8⟩ := id hFr
  have hll : ((nm, r, vs, e1, false) :: S).length = S.length + 1 := rfl
  have hvv : vsS ((nm, r, vs, e1, false) :: S) = vs.length + vsS S := rfl
  have hv6 := hFr.v6
  obtain ⟨fn, fm, dv, fb, d1, d2, d3, d4, ⟨u1, u2, u3, u4⟩, hDf, hT40⟩ := id hD
  obtain ⟨fL, fR, fH, fV, l0, l1, l4, l5, ⟨m0, m1, m4, m5⟩, hln⟩ := RS.lens hR
  have x1r := Vl.rg hR x1
  have y2r := Vl.rg hR y2
  have hne1 : neS ((nm, r, vs, e1, false) :: S) = 1 + neS S := rfl
  refine pw_aload_n (i := 0) C dX10_goOn_0 rfl rfl (Or.inr ⟨_, rfl⟩) ?_
  refine pw_get (j := 61) C cl_X10 fl_X10_371 (by decide) rfl a1 rfl dX10_goOn_1 ?_
  refine pw_stk (st' := [.int (iZ ((((nm, r, vs, e1, false) :: S).length : Nat) : Int))]) rfl ?_
  refine pw_iconst C dX10_goOn_4 ?_
  refine pw_isub C dX10_goOn_5 ?_
  refine pw_stk (st' := [.int (iZ ((S.length : Nat) : Int))]) (by rw [show ((((nm, r, vs, e1, false) :: S).length : Nat) : Int) - 1 = ((S.length : Nat) : Int) by omega]) ?_
  refine pw_istore_n (i := 2) (lv' := [(0, .ref b), (1, .int (iZ 0)), (2, .int (iZ ((S.length : Nat) : Int)))]) C dX10_goOn_6 rfl (by decide) rfl ?_
  refine pw_aload_n (i := 0) C dX10_goOn_7 rfl rfl (Or.inr ⟨_, rfl⟩) ?_
  refine pw_get (j := 56) C cl_X10 fl_X10_119 (by decide) rfl a1 rfl dX10_goOn_8 ?_
  refine pw_stk (st' := [.ref (B 56)]) rfl ?_
  refine pw_iload_n (i := 2) C dX10_goOn_11 rfl rfl ?_
  have g_1 := r2 ((S.length : Nat) : Int)
  refine pw_iald C b2 ⟨by omega, by omega, by omega⟩ dX10_goOn_12 ?_
  refine pw_if_eq (tgt := 64) C (by omega) dX10_goOn_13 (by decide) (fun h_2 => ?_) (fun h_2 => ?_)
  · have hrn : r = oNil := (RS.inj hR y2 hK.nil).mp (by omega)
    have hrp : obP r = false := by rw [hrn]; rfl
    refine pw_aload_n (i := 0) C dX10_goOn_64 rfl rfl (Or.inr ⟨_, rfl⟩) ?_
    refine pw_aload_n (i := 0) C dX10_goOn_65 rfl rfl (Or.inr ⟨_, rfl⟩) ?_
    refine pw_get (j := 0) C cl_X10 fl_X10_8 (by decide) rfl a1 rfl dX10_goOn_66 ?_
    refine pw_stk (st' := [.ref (B 0), .ref b]) rfl ?_
    refine pw_aload_n (i := 0) C dX10_goOn_69 rfl rfl (Or.inr ⟨_, rfl⟩) ?_
    refine pw_get (j := 55) C cl_X10 fl_X10_116 (by decide) rfl a1 rfl dX10_goOn_70 ?_
    refine pw_stk (st' := [.ref (B 55), .ref (B 0), .ref b]) rfl ?_
    refine pw_iload_n (i := 2) C dX10_goOn_73 rfl rfl ?_
    have g_3 := r1 ((S.length : Nat) : Int)
    refine pw_iald C b1 ⟨by omega, by omega, by omega⟩ dX10_goOn_74 ?_
    have hcx := (hln _ _ x1).1 x2
    have hcx1 := Vl.rg hR hcx.1
    refine pw_iald C l0 ⟨by omega, by omega, by omega⟩ dX10_goOn_75 ?_
    have hnv : Vl t n (fL (g1 ((S.length : Nat) : Int))) nm := by rw [← x3]; exact hcx.1
    have hfd := fn_def hR hK hnv hTn
    refine pw_callV (As := [.int (iZ (fL (g1 ((S.length : Nat) : Int))))]) (st := []) C (m_X10_functionOf g l a1 hR rfl rfl hK hD (by exact h32) hnv (cm := -1) (by exact h37) ⟨by decide, by decide⟩) my_X10_functionOf ml_X10_322 (pw_rec.of C a1 cl_X10.1) rfl ⟨Nat.le_of_ble_eq_true rfl, Nat.le_of_ble_eq_true rfl⟩ ⟨by (try dsimp only); omega, by (try dsimp only); omega⟩ rfl (Nat.le_of_ble_eq_true rfl) dX10_goOn_76 ?_
    rintro _ _ ⟨rfl, rfl⟩
    generalize hFF : fnZ (-1) (fL (g1 ((S.length : Nat) : Int))) T nm = FF at hfd ⊢
    have hFFi : inI FF := by
      rcases hfd with ⟨q1, i, d, q2, q3, q4⟩ | ⟨q1, q2, q3⟩
      · have := (List.getElem?_eq_some_iff.mp q3).1; omega
      · have := q3 (ok_base hrp q2 hok0).1; omega
    refine pw_stk (st' := [.int (iZ FF)]) rfl ?_
    refine pw_istore_n (i := 3) (lv' := [(0, .ref b), (1, .int (iZ 0)), (2, .int (iZ ((S.length : Nat) : Int))), (3, .int (iZ FF))]) C dX10_goOn_79 rfl (by decide) rfl ?_
    refine pw_aload_n (i := 0) C dX10_goOn_80 rfl rfl (Or.inr ⟨_, rfl⟩) ?_
    refine pw_get (j := 60) C cl_X10 fl_X10_131 (by decide) rfl a1 rfl dX10_goOn_81 ?_
    refine pw_stk (st' := [.ref (B 60)]) rfl ?_
    refine pw_iload_n (i := 2) C dX10_goOn_84 rfl rfl ?_
    refine pw_iconst C dX10_goOn_85 ?_
    refine pw_zast C b6 ⟨by omega, by omega, by omega⟩ (by decide +kernel) dX10_goOn_86 (fun w_6 k_4 o_5 => ?_)
    refine pw_iload_n (i := 3) C dX10_goOn_87 rfl rfl ?_
    refine pw_bipush C dX10_goOn_88 (by decide) ?_
    refine pw_icmp_lt (tgt := 118) C (by omega) (by omega) dX10_goOn_90 (by decide) (fun h_7 => ?_) (fun h_7 => ?_)
    · obtain ⟨-, hlk, hb0⟩ := hfd.resolve_left (fun q => by omega)
      have hob := ok_base hrp hlk hok0
      have hbs := hb0 hob.1
      have ha1 := arB_1 _ hob.1.1 hob.1.2
      have hbsk := hob.2
      refine pw_aload_n (i := 0) C dX10_goOn_118 rfl rfl (Or.inr ⟨_, rfl⟩) ?_
      refine pw_aload_n (i := 0) C dX10_goOn_119 rfl rfl (Or.inr ⟨_, rfl⟩) ?_
      refine pw_iload_n (i := 3) C dX10_goOn_120 rfl rfl ?_
      refine pw_aload_n (i := 0) C dX10_goOn_121 rfl rfl (Or.inr ⟨_, rfl⟩) ?_
      have c_8 := (o_5 1000 (by omega)).trans a1
      refine pw_get (j := 57) C cl_X10 fl_X10_122 (by decide) rfl c_8 rfl dX10_goOn_122 ?_
      refine pw_stk (st' := [.ref (B 57), .int (iZ FF), .ref b, .ref b]) rfl ?_
      refine pw_iload_n (i := 2) C dX10_goOn_125 rfl rfl ?_
      have c_9 := (o_5 1058 (by omega)).trans b3
      refine pw_iald C c_9 ⟨by omega, by omega, by omega⟩ dX10_goOn_126 ?_
      refine pw_stk (st' := [.int (iZ ((vsS S : Nat) : Int)), .int (iZ FF), .ref b, .ref b]) (by rw [y3]) ?_
      have R_10 := hR.same (w' := w_6) (fun k hk => (o_5 k (by omega)))
      have c_11 := (o_5 1063 (by omega)).trans b7
      have hg0 := VlsI.get 0 y6 (by omega)
      rw [show ((vsS S : Nat) : Int) + ((0 : Nat) : Int) = ((vsS S : Nat) : Int) by omega] at hg0
      refine pw_callV (As := [.int (iZ FF), .int (iZ ((vsS S : Nat) : Int))]) (st := [.ref b]) C (m_X10_basic g l c_8 R_10 rfl rfl hK (A1 := vs.getD 0 oNil) (A2 := vs.getD 1 oNil) c_11 r7 (by omega) (by omega) hg0 (fun q => VlsI.get 1 y6 (by have h1 := hbs.2.1; have h2 := pm_lt (fL (g1 ((S.length : Nat) : Int))).toNat (by omega); have h3 := ha1.2 (by omega); omega)) (by omega)) my_X10_basic ml_X10_401 (pw_rec.of C c_8 cl_X10.1) rfl ⟨Nat.le_of_ble_eq_true rfl, Nat.le_of_ble_eq_true rfl⟩ ⟨by (try dsimp only); omega, by (try dsimp only); omega⟩ rfl (Nat.le_of_ble_eq_true rfl) dX10_goOn_127 ?_
      rintro _ w5 ⟨z5, t5, n5, s5, Z5, rfl, e5, R5, x5, hn5, hs5, hF5, ho5⟩
      have x51 := x5.1
      have R5n := R5.n
      rw [show pm FF.toNat = pm (fL (g1 ((S.length : Nat) : Int))).toNat by rw [hbs.1]] at hF5
      have hz5 : inI z5 := by
        revert hF5
        cases baseF (pm (fL (g1 ((S.length : Nat) : Int))).toNat) (vs.getD 0 oNil) (vs.getD 1 oNil) with
        | some v => intro hF5; have := Vl.rg R5 hF5; omega
        | none => intro hF5; have q : z5 = -1 := hF5; omega
      refine pw_stk (st' := [.int (iZ z5), .ref b]) rfl ?_
      refine pw_put (j := 67) C cl_X10 fl_X10_368 (by decide) rfl rfl rfl rfl rfl e5 (Nat.le_of_ble_eq_true rfl) dX10_goOn_130 (fun w_14 k_12 o_13 => ?_)
      have k_15 : w_14 1000 = (b, some (mdE B (va_up (va_up (va_up (evX x n ((sN : Nat) : Int) ((k : Nat) : Int) ((((nm, r, vs, e1, false) :: S).length : Nat) : Int) ((vsS ((nm, r, vs, e1, false) :: S) : Nat) : Int) li 0 0 vl) 7 n5) 10 ((s5 : Nat) : Int)) 67 z5))) := k_12
      refine pw_aload_n (i := 0) C dX10_goOn_133 rfl rfl (Or.inr ⟨_, rfl⟩) ?_
      refine pw_iconst C dX10_goOn_134 ?_
      refine pw_put (j := 66) C cl_X10 fl_X10_359 (by decide) rfl rfl rfl (by decide +kernel) (by decide +kernel) k_15 (Nat.le_of_ble_eq_true rfl) dX10_goOn_135 (fun w_18 k_16 o_17 => ?_)
      have k_19 : w_18 1000 = (b, some (mdE B (va_up (va_up (va_up (va_up (evX x n ((sN : Nat) : Int) ((k : Nat) : Int) ((((nm, r, vs, e1, false) :: S).length : Nat) : Int) ((vsS ((nm, r, vs, e1, false) :: S) : Nat) : Int) li 0 0 vl) 7 n5) 10 ((s5 : Nat) : Int)) 67 z5) 66 1))) := k_16
      refine pw_aload_n (i := 0) C dX10_goOn_138 rfl rfl (Or.inr ⟨_, rfl⟩) ?_
      refine pw_get (j := 67) C cl_X10 fl_X10_368 (by decide) rfl k_19 rfl dX10_goOn_139 ?_
      refine pw_stk (st' := [.int (iZ z5)]) rfl ?_
      refine pw_iconst C dX10_goOn_142 ?_
      refine pw_icmp_ne (tgt := 151) C (by omega) (by omega) dX10_goOn_143 (by decide) (fun h_20 => ?_) (fun h_20 => ?_)
      · refine pw_vret C hr dX10_goOn_151 ⟨rfl, fun m nk R hRR h9 => ?_, fun k hk => (o_17 k (by omega)).trans ((o_13 k (by omega)).trans ((ho5 k (by omega)).trans (o_5 k (by omega))))⟩
        cases m with
        | zero => exact (mRn_9 hRR h9).elim
        | succ m =>
          rw [mRun_2] at hRR
          have c_21 := ((o_17 1061 (by omega)).trans ((o_13 1061 (by omega)).trans (ho5 1061 (by omega)))).trans k_4
          have R_22 := R5.same (w' := w_18) (fun k hk => (o_17 k (by omega)).trans (o_13 k (by omega)))
          rw [if_neg (by rw [hrp]; decide), hlk] at hRR
          simp only at hRR
          rw [← hbs.2.1] at hF5
          cases hbf : baseF (kIx nm) (vs.getD 0 oNil) (vs.getD 1 oNil) with
          | none => rw [hbf] at hF5; exact absurd hF5 (by omega)
          | some v => rw [hbf] at hF5 hRR; exact ⟨1, _, k, 0, 1, z5, li, t5, n5, s5, Z5, g1, g2, g3, g4, g5, _, fv, EvM.grow (w' := w_18) hM R_22 x5 (by omega) (by omega) (by rw [k_19]; rfl) c_21 (fun k hk => (o_17 k (by omega)).trans ((o_13 k (by omega)).trans ((ho5 k (by omega)).trans (o_5 k (by omega))))), x5, Or.inl ⟨rfl, rfl, rfl, ⟨⟨hok0.1, hok0.2.1, fun q => by cases q⟩, hok⟩, v, m + 1, nk, by omega, hF5, by rw [mRun_1, if_pos rfl]; exact hRR⟩⟩
      · refine pw_aload_n (i := 0) C dX10_goOn_146 rfl rfl (Or.inr ⟨_, rfl⟩) ?_
        refine pw_iconst C dX10_goOn_147 ?_
        refine pw_put (j := 65) C cl_X10 fl_X10_374 (by decide) rfl rfl rfl rfl rfl k_19 (Nat.le_of_ble_eq_true rfl) dX10_goOn_148 (fun w_25 k_23 o_24 => ?_)
        have k_26 : w_25 1000 = (b, some (mdE B (va_up (va_up (va_up (va_up (va_up (evX x n ((sN : Nat) : Int) ((k : Nat) : Int) ((((nm, r, vs, e1, false) :: S).length : Nat) : Int) ((vsS ((nm, r, vs, e1, false) :: S) : Nat) : Int) li 0 0 vl) 7 n5) 10 ((s5 : Nat) : Int)) 67 z5) 66 1) 65 3))) := k_23
        refine pw_vret C hr dX10_goOn_151 ⟨rfl, fun m nk R hRR h9 => ?_, fun k hk => (o_24 k (by omega)).trans ((o_17 k (by omega)).trans ((o_13 k (by omega)).trans ((ho5 k (by omega)).trans (o_5 k (by omega)))))⟩
        cases m with
        | zero => exact (mRn_9 hRR h9).elim
        | succ m =>
          rw [mRun_2] at hRR
          have c_27 := ((o_24 1061 (by omega)).trans ((o_17 1061 (by omega)).trans ((o_13 1061 (by omega)).trans (ho5 1061 (by omega))))).trans k_4
          have R_28 := R5.same (w' := w_25) (fun k hk => (o_24 k (by omega)).trans ((o_17 k (by omega)).trans (o_13 k (by omega))))
          rw [if_neg (by rw [hrp]; decide), hlk] at hRR
          simp only at hRR
          rw [← hbs.2.1] at hF5
          cases hbf : baseF (kIx nm) (vs.getD 0 oNil) (vs.getD 1 oNil) with
          | some v => rw [hbf] at hF5; exact absurd (Vl.rg R5 hF5).1 (by omega)
          | none => rw [hbf] at hRR; exact ⟨1, _, k, 3, 1, z5, li, t5, n5, s5, Z5, g1, g2, g3, g4, g5, _, fv, EvM.grow (w' := w_25) hM R_28 x5 (by omega) (by omega) (by rw [k_26]; rfl) c_27 (fun k hk => (o_24 k (by omega)).trans ((o_17 k (by omega)).trans ((o_13 k (by omega)).trans ((ho5 k (by omega)).trans (o_5 k (by omega)))))), x5, Or.inr (Or.inr ⟨3, oNil, nk, rfl, ⟨by decide, by decide⟩, hRR.symm⟩)⟩
    · obtain ⟨-, i, d, hFi, hTi, hlk⟩ := hfd.resolve_right (fun q => by omega)
      have hi40 := (List.getElem?_eq_some_iff.mp hTi).1
      have hdj := DfM.get hDf hTi
      rw [Nat.zero_add] at hdj
      rw [show ((i : Nat) : Int) = FF - 100 by omega] at hdj
      have hdjr := Vl.rg hR hdj.2.2.2
      have hob := ok_body hTo hrp hlk hok0
      refine pw_aload_n (i := 0) C dX10_goOn_93 rfl rfl (Or.inr ⟨_, rfl⟩) ?_
      refine pw_aload_n (i := 0) C dX10_goOn_94 rfl rfl (Or.inr ⟨_, rfl⟩) ?_
      have c_29 := (o_5 1000 (by omega)).trans a1
      refine pw_get (j := 36) C cl_X10 fl_X10_83 (by decide) rfl c_29 rfl dX10_goOn_95 ?_
      refine pw_stk (st' := [.ref (B 36), .ref b]) rfl ?_
      refine pw_iload_n (i := 3) C dX10_goOn_98 rfl rfl ?_
      refine pw_bipush C dX10_goOn_99 (by decide) ?_
      refine pw_isub C dX10_goOn_101 ?_
      have c_30 := (o_5 1037 (by omega)).trans d4
      have g_31 := u4 (FF - 100)
      refine pw_iald C c_30 ⟨by omega, by omega, by omega⟩ dX10_goOn_102 ?_
      refine pw_iload_n (i := 3) C dX10_goOn_103 rfl rfl ?_
      refine pw_bipush C dX10_goOn_104 (by decide) ?_
      refine pw_isub C dX10_goOn_106 ?_
      refine pw_aload_n (i := 0) C dX10_goOn_107 rfl rfl (Or.inr ⟨_, rfl⟩) ?_
      refine pw_get (j := 57) C cl_X10 fl_X10_122 (by decide) rfl c_29 rfl dX10_goOn_108 ?_
      refine pw_stk (st' := [.ref (B 57), .int (iZ (FF - 100)), .int (iZ (fb (FF - 100))), .ref b]) rfl ?_
      refine pw_iload_n (i := 2) C dX10_goOn_111 rfl rfl ?_
      have c_32 := (o_5 1058 (by omega)).trans b3
      refine pw_iald C c_32 ⟨by omega, by omega, by omega⟩ dX10_goOn_112 ?_
      refine pw_stk (st' := [.int (iZ ((vsS S : Nat) : Int)), .int (iZ (FF - 100)), .int (iZ (fb (FF - 100))), .ref b]) (by rw [y3]) ?_
      refine pw_iload_n (i := 1) C dX10_goOn_113 rfl rfl ?_
      have R_33 := hR.same (w' := w_6) (fun k hk => (o_5 k (by omega)))
      have hMe := EvM.grow (w' := w_6) hM R_33 Ext.rf (by omega) (Nat.le_refl _) c_29 k_4 (fun k hk => (o_5 k (by omega)))
      refine pw_callV (As := [.int (iZ (fb (FF - 100))), .int (iZ (FF - 100)), .int (iZ ((vsS S : Nat) : Int)), .int (iZ 0)]) (st := []) C (m_X10_beginEval g l h39 h32 h37 hfu hTo hTn hNB4 hMe hdj.2.2.2 (Or.inr ⟨i, d, vs, vsS S, by omega, hTi, rfl, hob.1, rfl, y6, by have : vsS ((nm, r, vs, e1, true) :: S) = vs.length + vsS S := rfl; omega⟩) ⟨by omega, by omega⟩ hob.2.1 ⟨hob.2.2, hok⟩) my_X10_beginEval ml_X10_397 (pw_rec.of C c_29 cl_X10.1) rfl ⟨Nat.le_of_ble_eq_true rfl, Nat.le_of_ble_eq_true rfl⟩ ⟨by (try dsimp only); omega, by (try dsimp only); omega⟩ rfl (Nat.le_of_ble_eq_true rfl) dX10_goOn_114 ?_
      rintro _ w9 ⟨rfl, hT9, ho9⟩
      refine pw_stk (st' := []) rfl ?_
      refine pw_vret C hr dX10_goOn_117 ⟨rfl, fun m nk R hRR h9 => ?_, fun k hk => (ho9 k (by omega)).trans (o_5 k (by omega))⟩
      cases m with
      | zero => exact (mRn_9 hRR h9).elim
      | succ m =>
        rw [mRun_2] at hRR
        rw [if_neg (by rw [hrp]; decide), hlk] at hRR
        cases m with
        | zero => exact (mRn_9 hRR h9).elim
        | succ m => exact (hT9 m nk R hRR).mono (by omega)
  · have hrp : obP r = true := by
      cases hb : obP r with
      | true => rfl
      | false => exact absurd ((RS.inj hR y2 hK.nil).mpr (obLen_np hb hok0.1).1) (by omega)
    have hcr := (hln _ _ y2).1 hrp
    have hcr1 := Vl.rg hR hcr.1
    have hcr2 := Vl.rg hR hcr.2
    have hoa := ok_arg hrp hok0
    refine pw_aload_n (i := 0) C dX10_goOn_16 rfl rfl (Or.inr ⟨_, rfl⟩) ?_
    refine pw_get (j := 0) C cl_X10 fl_X10_8 (by decide) rfl a1 rfl dX10_goOn_17 ?_
    refine pw_stk (st' := [.ref (B 0)]) rfl ?_
    refine pw_aload_n (i := 0) C dX10_goOn_20 rfl rfl (Or.inr ⟨_, rfl⟩) ?_
    refine pw_get (j := 56) C cl_X10 fl_X10_119 (by decide) rfl a1 rfl dX10_goOn_21 ?_
    refine pw_stk (st' := [.ref (B 56), .ref (B 0)]) rfl ?_
    refine pw_iload_n (i := 2) C dX10_goOn_24 rfl rfl ?_
    have g_34 := r2 ((S.length : Nat) : Int)
    refine pw_iald C b2 ⟨by omega, by omega, by omega⟩ dX10_goOn_25 ?_
    have g_35 := m0 (g2 ((S.length : Nat) : Int))
    refine pw_iald C l0 ⟨by omega, by omega, by omega⟩ dX10_goOn_26 ?_
    refine pw_istore_n (i := 3) (lv' := [(0, .ref b), (1, .int (iZ 0)), (2, .int (iZ ((S.length : Nat) : Int))), (3, .int (iZ (fL (g2 ((S.length : Nat) : Int)))))]) C dX10_goOn_27 rfl (by decide) rfl ?_
    refine pw_aload_n (i := 0) C dX10_goOn_28 rfl rfl (Or.inr ⟨_, rfl⟩) ?_
    refine pw_get (j := 56) C cl_X10 fl_X10_119 (by decide) rfl a1 rfl dX10_goOn_29 ?_
    refine pw_stk (st' := [.ref (B 56)]) rfl ?_
    refine pw_iload_n (i := 2) C dX10_goOn_32 rfl rfl ?_
    refine pw_aload_n (i := 0) C dX10_goOn_33 rfl rfl (Or.inr ⟨_, rfl⟩) ?_
    refine pw_get (j := 1) C cl_X10 fl_X10_14 (by decide) rfl a1 rfl dX10_goOn_34 ?_
    refine pw_stk (st' := [.ref (B 1), .int (iZ ((S.length : Nat) : Int)), .ref (B 56)]) rfl ?_
    refine pw_aload_n (i := 0) C dX10_goOn_37 rfl rfl (Or.inr ⟨_, rfl⟩) ?_
    refine pw_get (j := 56) C cl_X10 fl_X10_119 (by decide) rfl a1 rfl dX10_goOn_38 ?_
    refine pw_stk (st' := [.ref (B 56), .ref (B 1), .int (iZ ((S.length : Nat) : Int)), .ref (B 56)]) rfl ?_
    refine pw_iload_n (i := 2) C dX10_goOn_41 rfl rfl ?_
    have g_36 := r2 ((S.length : Nat) : Int)
    refine pw_iald C b2 ⟨by omega, by omega, by omega⟩ dX10_goOn_42 ?_
    have g_37 := m1 (g2 ((S.length : Nat) : Int))
    refine pw_iald C l1 ⟨by omega, by omega, by omega⟩ dX10_goOn_43 ?_
    refine pw_iast C b2 ⟨by omega, by omega, by omega⟩ dX10_goOn_44 (fun w_40 k_38 o_39 => ?_)
    refine pw_aload_n (i := 0) C dX10_goOn_45 rfl rfl (Or.inr ⟨_, rfl⟩) ?_
    refine pw_iload_n (i := 3) C dX10_goOn_46 rfl rfl ?_
    refine pw_aload_n (i := 0) C dX10_goOn_47 rfl rfl (Or.inr ⟨_, rfl⟩) ?_
    have c_41 := (o_39 1000 (by omega)).trans a1
    refine pw_get (j := 58) C cl_X10 fl_X10_125 (by decide) rfl c_41 rfl dX10_goOn_48 ?_
    refine pw_stk (st' := [.ref (B 58), .int (iZ (fL (g2 ((S.length : Nat) : Int)))), .ref b]) rfl ?_
    refine pw_iload_n (i := 2) C dX10_goOn_51 rfl rfl ?_
    have c_42 := (o_39 1059 (by omega)).trans b4
    have g_43 := r4 ((S.length : Nat) : Int)
    refine pw_iald C c_42 ⟨by omega, by omega, by omega⟩ dX10_goOn_52 ?_
    refine pw_aload_n (i := 0) C dX10_goOn_53 rfl rfl (Or.inr ⟨_, rfl⟩) ?_
    refine pw_get (j := 59) C cl_X10 fl_X10_128 (by decide) rfl c_41 rfl dX10_goOn_54 ?_
    refine pw_stk (st' := [.ref (B 59), .int (iZ (g4 ((S.length : Nat) : Int))), .int (iZ (fL (g2 ((S.length : Nat) : Int)))), .ref b]) rfl ?_
    refine pw_iload_n (i := 2) C dX10_goOn_57 rfl rfl ?_
    have c_44 := (o_39 1060 (by omega)).trans b5
    have g_45 := r5 ((S.length : Nat) : Int)
    refine pw_iald C c_44 ⟨by omega, by omega, by omega⟩ dX10_goOn_58 ?_
    refine pw_iload_n (i := 1) C dX10_goOn_59 rfl rfl ?_
    have hMe := EvM.arg (w' := w_40) hM hcr.2 k_38 (fun k hk => (o_39 k (by omega)))
    refine pw_callV (As := [.int (iZ (fL (g2 ((S.length : Nat) : Int)))), .int (iZ (g4 ((S.length : Nat) : Int))), .int (iZ (g5 ((S.length : Nat) : Int))), .int (iZ 0)]) (st := []) C (m_X10_beginEval g l h39 h32 h37 hfu hTo hTn hNB4 hMe hcr.1 (y4.keep Ext.rf (fun _ _ _ => rfl) (by have : vsS ((nm, obCdr r, vs, e1, false) :: S) = vs.length + vsS S := rfl; omega)) ⟨r4 _, r5 _⟩ hoa.1 ⟨hoa.2, hok⟩) my_X10_beginEval ml_X10_397 (pw_rec.of C c_41 cl_X10.1) rfl ⟨Nat.le_of_ble_eq_true rfl, Nat.le_of_ble_eq_true rfl⟩ ⟨by (try dsimp only); omega, by (try dsimp only); omega⟩ rfl (Nat.le_of_ble_eq_true rfl) dX10_goOn_60 ?_
    rintro _ w9 ⟨rfl, hT9, ho9⟩
    refine pw_stk (st' := []) rfl ?_
    refine pw_vret C hr dX10_goOn_63 ⟨rfl, fun m nk R hRR h9 => ?_, fun k hk => (ho9 k (by omega)).trans (o_39 k (by omega))⟩
    cases m with
    | zero => exact (mRn_9 hRR h9).elim
    | succ m =>
      rw [mRun_2] at hRR
      rw [if_pos hrp] at hRR
      cases m with
      | zero => exact (mRn_9 hRR h9).elim
      | succ m => exact (hT9 m nk R hRR).mono (by omega)

