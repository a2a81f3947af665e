section
variable {g : pw_P} {w w' : pw_W} {b : Nat} {B : Nat → Nat} {x : Nat → Int} {T : List Dn} {be : Bds} {fu : Nat} {NB : Int} {s0 aw : Nat} {S : List Fr} {k : Nat} {wy dn vl li : Int} {t : Int → Ob} {n : Int} {sN : Nat} {fZ g1 g2 g3 g4 g5 g6 fv : Int → Int} {nm r y : Ob} {vs : List Ob} {e : Bds} {en : Bool}
theorem EvM.pop (h : EvM g w b B x T be fu NB s0 aw ((nm, r, vs, e, en) :: S) k wy dn vl li t n sN fZ g1 g2 g3 g4 g5 g6 fv) (hc : w' 1000 = (b, some (mdE B (evX x n ((sN : Nat) : Int) ((k : Nat) : Int) ((S.length : Nat) : Int) ((vsS S : Nat) : Int) li wy dn vl)))) (hf : ∀ k, k ≠ 1000 → w' k = w k) : EvM g w' b B x T be fu NB s0 1 S k wy dn vl li t n sN fZ g1 g2 g3 g4 g5 g6 fv := by
  obtain ⟨a1, a2, a3, a4, a5, a6, a7, a8, a9, a10⟩ := h
  refine ⟨hc, a2.same (fun k hk => hf k (by omega)), a3, a4.same (fun k hk => hf k (by omega)) Ext.rf, a5.same (fun k hk => hf k (by omega)) Ext.rf, a6.same (fun k hk => hf k (by omega)), a7.2.2.2.2.2.2.2, ⟨by have := a8.1; simp only [List.length_cons] at this; omega, a8.2⟩, ?_, a10⟩
  simp only [neS] at a9
  split at a9 <;> omega
theorem EvM.grow {wy' dn' vl' li' n' : Int} {t' : Int → Ob} {s' : Nat} {fZ' : Int → Int} (h : EvM g w b B x T be fu NB s0 aw ((nm, r, vs, e, false) :: S) k wy dn vl li t n sN fZ g1 g2 g3 g4 g5 g6 fv) (hR' : RS g w' B t' n' s' fZ') (he : Ext t n t' n') (hn : n' ≤ n + 1) (hs : s' ≤ sN) (hc : w' 1000 = (b, some (mdE B (evX x n' ((s' : Nat) : Int) ((k : Nat) : Int) ((((nm, r, vs, e, false) :: S).length : Nat) : Int) ((vsS ((nm, r, vs, e, false) :: S) : Nat) : Int) li' wy' dn' vl')))) (h6 : w' 1061 = (B 60, some (AZ g 300 (upz g6 ((S.length : Nat) : Int) 1)))) (hf : ∀ k, (k < 1000 ∨ k = 1008 ∨ (1010 < k ∧ k ≠ 1061)) → w' k = w k) : EvM g w' b B x T be fu NB s0 1 ((nm, r, vs, e, true) :: S) k wy' dn' vl' li' t' n' s' fZ' g1 g2 g3 g4 g5 (upz g6 ((S.length : Nat) : Int) 1) fv := by
  obtain ⟨a1, a2, a3, a4, a5, a6, a7, a8, a9, a10⟩ := h
  refine ⟨hc, hR', a3.ext he, a4.same (fun k hk => hf k (by omega)) he, a5.same (fun k hk => hf k (by omega)) he, ⟨(hf _ (by omega)).trans a6.1, (hf _ (by omega)).trans a6.2.1, (hf _ (by omega)).trans a6.2.2.1, (hf _ (by omega)).trans a6.2.2.2.1, (hf _ (by omega)).trans a6.2.2.2.2.1, h6, (hf _ (by omega)).trans a6.2.2.2.2.2.2.1, a6.2.2.2.2.2.2.2.1, a6.2.2.2.2.2.2.2.2.1, a6.2.2.2.2.2.2.2.2.2.1, a6.2.2.2.2.2.2.2.2.2.2.1, a6.2.2.2.2.2.2.2.2.2.2.2.1, upz_inI a6.2.2.2.2.2.2.2.2.2.2.2.2.1 (by decide), a6.2.2.2.2.2.2.2.2.2.2.2.2.2⟩, ?_, a8, ?_, by omega⟩
  · obtain ⟨⟨X0, c1, c2, c3, c4⟩, c5, c6, c7, c8, c9, c10, c11⟩ := a7
    exact ⟨⟨X0, c1.ext he, c2, c3, fun q => by cases q⟩, c5.ext he, c6, c7.keep he (fun _ _ _ => rfl) (Nat.le_refl _), by rw [upz_self]; rfl, c9.ext he, c10, c11.keep he (fun j j0 j1 => ⟨rfl, rfl, rfl, rfl, rfl, upz_ne _ _ (by omega)⟩) (fun _ _ _ => rfl)⟩
  · have e1 : neS ((nm, r, vs, e, false) :: S) = 1 + neS S := rfl
    have e2 : neS ((nm, r, vs, e, true) :: S) = 0 + neS S := rfl
    rw [e1] at a9
    rw [e2]
    omega
theorem EvM.addv {dn' : Int} (h : EvM g w b B x T be fu NB s0 1 ((nm, r, vs, e, false) :: S) k wy dn vl li t n sN fZ g1 g2 g3 g4 g5 g6 fv) (hy : Vl t n vl y) (hv : vs.length < 6) (hc : w' 1000 = (b, some (mdE B (evX x n ((sN : Nat) : Int) ((k : Nat) : Int) ((((nm, r, vs, e, false) :: S).length : Nat) : Int) (((vsS ((nm, r, vs, e, false) :: S) : Nat) : Int) + 1) li wy dn' vl)))) (h7 : w' 1063 = (B 62, some (AI g 2400 (upz fv ((vsS ((nm, r, vs, e, false) :: S) : Nat) : Int) vl)))) (hf : ∀ k, (k ≠ 1000 ∧ k ≠ 1063) → w' k = w k) : EvM g w' b B x T be fu NB s0 0 ((nm, r, vs ++ [y], e, false) :: S) k wy dn' vl li t n sN fZ g1 g2 g3 g4 g5 g6 (upz fv ((vsS ((nm, r, vs, e, false) :: S) : Nat) : Int) vl) := by
  obtain ⟨a1, a2, a3, a4, a5, a6, a7, a8, a9, a10⟩ := h
  have hn := a2.n
  have e0 : vsS ((nm, r, vs, e, false) :: S) = vs.length + vsS S := rfl
  refine ⟨hc.trans ?_, a2.same (fun k hk => hf k (by omega)), a3, a4.same (fun k hk => hf k (by omega)) Ext.rf, a5.same (fun k hk => hf k (by omega)) Ext.rf, ⟨(hf _ (by omega)).trans a6.1, (hf _ (by omega)).trans a6.2.1, (hf _ (by omega)).trans a6.2.2.1, (hf _ (by omega)).trans a6.2.2.2.1, (hf _ (by omega)).trans a6.2.2.2.2.1, (hf _ (by omega)).trans a6.2.2.2.2.2.1, h7, a6.2.2.2.2.2.2.2.1, a6.2.2.2.2.2.2.2.2.1, a6.2.2.2.2.2.2.2.2.2.1, a6.2.2.2.2.2.2.2.2.2.2.1, a6.2.2.2.2.2.2.2.2.2.2.2.1, a6.2.2.2.2.2.2.2.2.2.2.2.2.1, upz_inI a6.2.2.2.2.2.2.2.2.2.2.2.2.2 (by have := hy.1; have := hy.2.1; omega)⟩, ?_, a8, a9, a10⟩
  · have e1 : ((vsS ((nm, r, vs ++ [y], e, false) :: S) : Nat) : Int) = ((vsS ((nm, r, vs, e, false) :: S) : Nat) : Int) + 1 := by simp only [vsS, List.length_append, List.length_cons, List.length_nil]; omega
    rw [e1]; rfl
  · obtain ⟨⟨X0, c1, c2, c3, c4⟩, c5, c6, c7, c8, c9, c10, c11⟩ := a7
    refine ⟨⟨X0, c1, c2, c3, fun q => by rw [c4 q]; simp⟩, c5, c6, c7.keep Ext.rf (fun j j0 j1 => upz_ne _ _ (by omega)) (Nat.le_refl _), c8, ?_, by simp; omega, c11.keep Ext.rf (fun j j0 j1 => ⟨rfl, rfl, rfl, rfl, rfl, rfl⟩) (fun j j0 j1 => upz_ne _ _ (by omega))⟩
    have := c9.add hy
    rw [show ((vsS S : Nat) : Int) + ((vs.length : Nat) : Int) = ((vsS ((nm, r, vs, e, false) :: S) : Nat) : Int) by rw [e0]; omega] at this
    exact this
theorem EvM.arg {y : Int} (h : EvM g w b B x T be fu NB s0 0 ((nm, r, vs, e, false) :: S) k wy dn vl li t n sN fZ g1 g2 g3 g4 g5 g6 fv) (hy : Vl t n y (obCdr r)) (h2 : w' 1057 = (B 56, some (AI g 300 (upz g2 ((S.length : Nat) : Int) y)))) (hf : ∀ k, k ≠ 1057 → w' k = w k) : EvM g w' b B x T be fu NB s0 1 ((nm, obCdr r, vs, e, false) :: S) k wy dn vl li t n sN fZ g1 (upz g2 ((S.length : Nat) : Int) y) g3 g4 g5 g6 fv := by
  obtain ⟨a1, a2, a3, a4, a5, a6, a7, a8, a9, a10⟩ := h
  have hn := a2.n
  refine ⟨(hf _ (by omega)).trans a1, a2.same (fun k hk => hf k (by omega)), a3, a4.same (fun k hk => hf k (by omega)) Ext.rf, a5.same (fun k hk => hf k (by omega)) Ext.rf, ⟨(hf _ (by omega)).trans a6.1, h2, (hf _ (by omega)).trans a6.2.2.1, (hf _ (by omega)).trans a6.2.2.2.1, (hf _ (by omega)).trans a6.2.2.2.2.1, (hf _ (by omega)).trans a6.2.2.2.2.2.1, (hf _ (by omega)).trans a6.2.2.2.2.2.2.1, a6.2.2.2.2.2.2.2.1, upz_inI a6.2.2.2.2.2.2.2.2.1 (by have := hy.1; have := hy.2.1; omega), a6.2.2.2.2.2.2.2.2.2⟩, ?_, a8, a9, a10⟩
  obtain ⟨⟨X0, c1, c2, c3, c4⟩, c5, c6, c7, c8, c9, c10, c11⟩ := a7
  exact ⟨⟨X0, c1, c2, c3, fun q => by rw [c4 q]; exact cdN_p.symm⟩, by rw [upz_self]; exact hy, c6, c7, c8, c9, c10, c11.keep Ext.rf (fun j j0 j1 => ⟨rfl, upz_ne _ _ (by omega), rfl, rfl, rfl, rfl⟩) (fun _ _ _ => rfl)⟩
end
theorem mRn_9 {T : List Dn} {fu md k nk : Nat} {x : Ob} {e : Bds} {S : List Fr} {R : Nat × Ob × Nat × Nat} (h : mRun T fu 0 md x e S k nk = R) (h9 : R.1 ≠ 9) : False := h9 (by rw [← h, mRun])
theorem pj4 {X0 : Ob} (h0 : obP X0 = true) (h1 : obP (obCdr X0) = true) (h2 : obP (obCdr (obCdr X0)) = true) (h3 : obP (obCdr (obCdr (obCdr X0))) = true) : ∀ j, j ≤ 3 → obP (cdN j X0) = true
  | 0, _ => h0
  | 1, _ => h1
  | 2, _ => h2
  | 3, _ => h3
  | j + 4, h => absurd h (by omega)
theorem obP_cdr {x : Ob} (h : obP (obCdr x) = true) : obP x = true := by
  cases hb : obP x with
  | true => rfl
  | false => rw [(obLen_car hb).2] at h; cases h
set_option maxRecDepth 100000 in
set_option maxHeartbeats 4000000 in
/-- takeValue -/
theorem m_X10_takeValue (g : pw_P) (l : Launch) {w : pw_W} {b : Nat} {B : Nat → Nat} {x : Nat → Int} {T : List Dn} {be : Bds} {fu : Nat} {NB : Int} {s0 : Nat} {S : List Fr} {k : Nat} {vl li : Int} {t : Int → Ob} {n : Int} {sN : Nat} {fZ g1 g2 g3 g4 g5 g6 fv : Int → Int} (h39 : x 39 = ((fu : Nat) : Int)) (h32 : x 32 = ((T.length : Nat) : Int)) (h37 : x 37 = -1) (hfu : fu ≤ 1000) (hTo : TOk T) (hTn : TNs T) (hNB4 : NB ≤ 40000) {nm r y0 : Ob} {vs : List Ob} {e1 : Bds} {en : Bool} (hM : EvM g w b B x T be fu NB s0 1 ((nm, r, vs, e1, en) :: S) k 0 1 vl li t n sN fZ g1 g2 g3 g4 g5 g6 fv) (hy0 : Vl t n vl y0) (hok : FrsOk T ((nm, r, vs, e1, en) :: S)) : pw_M g l yX10_takeValue cX10_takeValue 3 none { frames := 4, cells := 0, slots := 0, locals := 88 } [.ref b, .int (iZ 0)] w (fun r0 w' => r0 = none ∧ (∀ (m nk : Nat) (R : Nat × Ob × Nat × Nat), mRun T fu m 1 y0 [] ((nm, r, vs, e1, en) :: S) k nk = R → R.1 ≠ 9 → EvT g w' b B x T be fu NB s0 t n (2 * m - 1) R) ∧ evF w w') := by
  refine pw_M.of (by decide) (Nat.le_of_ble_eq_true rfl) rfl ?_
  intro p e s m args below meth c C hr hn
  obtain ⟨a1, hR, hK, hD, hBd, hA, hFr, ⟨hSl, hkf⟩, hNB, hs0⟩ := id hM
  obtain ⟨b1, b2, b3, b4, b5, b6, b7, r1, r2, r3, r4, r5, r6, r7⟩ := id hA
  have hRn := hR.n
  obtain ⟨⟨X0, x1, x2, x3, x4⟩, y2, y3, y4, y5, y6, y7, y8⟩ := id hFr
  have hll : ((nm, r, vs, e1, en) :: S).length = S.length + 1 := rfl
  have hvv : vsS ((nm, r, vs, e1, en) :: S) = vs.length + vsS S := rfl
  have hv6 := hFr.v6
  obtain ⟨fL, fR, fH, fV, l0, l1, l4, l5, ⟨m0, m1, m4, m5⟩, hln⟩ := RS.lens hR
  have hyr := Vl.rg hR hy0
  have x1r := Vl.rg hR x1
  refine pw_aload_n (i := 0) C dX10_takeValue_0 rfl rfl (Or.inr ⟨_, rfl⟩) ?_
  refine pw_get (j := 61) C cl_X10 fl_X10_371 (by decide) rfl a1 rfl dX10_takeValue_1 ?_
  refine pw_stk (st' := [.int (iZ ((((nm, r, vs, e1, en) :: S).length : Nat) : Int))]) rfl ?_
  refine pw_iconst C dX10_takeValue_4 ?_
  refine pw_isub C dX10_takeValue_5 ?_
  refine pw_stk (st' := [.int (iZ ((S.length : Nat) : Int))]) (by rw [show ((((nm, r, vs, e1, en) :: S).length : Nat) : Int) - 1 = ((S.length : Nat) : Int) by omega]) ?_
  refine pw_istore_n (i := 2) (lv' := [(0, .ref b), (1, .int (iZ 0)), (2, .int (iZ ((S.length : Nat) : Int)))]) C dX10_takeValue_6 rfl (by decide) rfl ?_
  refine pw_aload_n (i := 0) C dX10_takeValue_7 rfl rfl (Or.inr ⟨_, rfl⟩) ?_
  refine pw_get (j := 60) C cl_X10 fl_X10_131 (by decide) rfl a1 rfl dX10_takeValue_8 ?_
  refine pw_stk (st' := [.ref (B 60)]) rfl ?_
  refine pw_iload_n (i := 2) C dX10_takeValue_11 rfl rfl ?_
  refine pw_zald C b6 ⟨by omega, by omega, by omega⟩ dX10_takeValue_12 ?_
  refine pw_stk (st' := [.int (iZ (b2i en))]) (by rw [y5]) ?_
  refine pw_if_eqB (tgt := 39) C dX10_takeValue_13 (by decide) (fun h_1 => ?_) (fun h_1 => ?_)
  · have hen := h_1
    have hM' : EvM g w b B x T be fu NB s0 1 ((nm, r, vs, e1, false) :: S) k 0 1 vl li t n sN fZ g1 g2 g3 g4 g5 g6 fv := by rw [← hen]; exact hM
    have hok' : FrOk T 1 (nm, r, vs, e1, false) := by rw [← hen]; exact hok.1
    refine pw_aload_n (i := 0) C dX10_takeValue_39 rfl rfl (Or.inr ⟨_, rfl⟩) ?_
    refine pw_get (j := 0) C cl_X10 fl_X10_8 (by decide) rfl a1 rfl dX10_takeValue_40 ?_
    refine pw_stk (st' := [.ref (B 0)]) rfl ?_
    refine pw_aload_n (i := 0) C dX10_takeValue_43 rfl rfl (Or.inr ⟨_, rfl⟩) ?_
    refine pw_get (j := 55) C cl_X10 fl_X10_116 (by decide) rfl a1 rfl dX10_takeValue_44 ?_
    refine pw_stk (st' := [.ref (B 55), .ref (B 0)]) rfl ?_
    refine pw_iload_n (i := 2) C dX10_takeValue_47 rfl rfl ?_
    have g_2 := r1 ((S.length : Nat) : Int)
    refine pw_iald C b1 ⟨by omega, by omega, by omega⟩ dX10_takeValue_48 ?_
    have hcx := (hln _ _ x1).1 x2
    have hcx1 := Vl.rg hR hcx.1
    refine pw_iald C l0 ⟨by omega, by omega, by omega⟩ dX10_takeValue_49 ?_
    refine pw_iconst C dX10_takeValue_50 ?_
    refine pw_icmp_ne (tgt := 103) C (by omega) (by omega) dX10_takeValue_51 (by decide) (fun h_3 => ?_) (fun h_3 => ?_)
    · have hnm : ¬ nm = yK 3 := fun q => absurd ((RS.inj hR hcx.1 (hK.v 3 (by decide))).mpr (by rw [x3, q]; rfl)) (by omega)
      have hadd := ok_add (x := y0) hTo hnm hok'
      refine pw_aload_n (i := 0) C dX10_takeValue_103 rfl rfl (Or.inr ⟨_, rfl⟩) ?_
      refine pw_get (j := 62) C cl_X10 fl_X10_135 (by decide) rfl a1 rfl dX10_takeValue_104 ?_
      refine pw_stk (st' := [.ref (B 62)]) rfl ?_
      refine pw_aload_n (i := 0) C dX10_takeValue_107 rfl rfl (Or.inr ⟨_, rfl⟩) ?_
      refine pw_get (j := 63) C cl_X10 fl_X10_383 (by decide) rfl a1 rfl dX10_takeValue_108 ?_
      refine pw_stk (st' := [.int (iZ ((vsS ((nm, r, vs, e1, en) :: S) : Nat) : Int)), .ref (B 62)]) rfl ?_
      refine pw_aload_n (i := 0) C dX10_takeValue_111 rfl rfl (Or.inr ⟨_, rfl⟩) ?_
      refine pw_get (j := 67) C cl_X10 fl_X10_368 (by decide) rfl a1 rfl dX10_takeValue_112 ?_
      refine pw_stk (st' := [.int (iZ vl), .int (iZ ((vsS ((nm, r, vs, e1, en) :: S) : Nat) : Int)), .ref (B 62)]) rfl ?_
      refine pw_iast C b7 ⟨by omega, by omega, by omega⟩ dX10_takeValue_115 (fun w_6 k_4 o_5 => ?_)
      refine pw_aload_n (i := 0) C dX10_takeValue_116 rfl rfl (Or.inr ⟨_, rfl⟩) ?_
      refine pw_dup C dX10_takeValue_117 rfl ?_
      have c_7 := (o_5 1000 (by omega)).trans a1
      refine pw_get (j := 63) C cl_X10 fl_X10_383 (by decide) rfl c_7 rfl dX10_takeValue_118 ?_
      refine pw_stk (st' := [.int (iZ ((vsS ((nm, r, vs, e1, en) :: S) : Nat) : Int)), .ref b]) rfl ?_
      refine pw_iconst C dX10_takeValue_121 ?_
      refine pw_iadd C dX10_takeValue_122 ?_
      refine pw_put (j := 63) C cl_X10 fl_X10_383 (by decide) rfl rfl rfl rfl rfl c_7 (Nat.le_of_ble_eq_true rfl) dX10_takeValue_123 (fun w_10 k_8 o_9 => ?_)
      have k_11 : w_10 1000 = (b, some (mdE B (va_up (evX x n ((sN : Nat) : Int) ((k : Nat) : Int) ((((nm, r, vs, e1, en) :: S).length : Nat) : Int) ((vsS ((nm, r, vs, e1, en) :: S) : Nat) : Int) li 0 1 vl) 63 (((vsS ((nm, r, vs, e1, en) :: S) : Nat) : Int) + 1)))) := k_8
      refine pw_aload_n (i := 0) C dX10_takeValue_126 rfl rfl (Or.inr ⟨_, rfl⟩) ?_
      refine pw_iconst C dX10_takeValue_127 ?_
      refine pw_put (j := 66) C cl_X10 fl_X10_359 (by decide) rfl rfl rfl (by decide +kernel) (by decide +kernel) k_11 (Nat.le_of_ble_eq_true rfl) dX10_takeValue_128 (fun w_14 k_12 o_13 => ?_)
      have k_15 : w_14 1000 = (b, some (mdE B (va_up (va_up (evX x n ((sN : Nat) : Int) ((k : Nat) : Int) ((((nm, r, vs, e1, en) :: S).length : Nat) : Int) ((vsS ((nm, r, vs, e1, en) :: S) : Nat) : Int) li 0 1 vl) 63 (((vsS ((nm, r, vs, e1, en) :: S) : Nat) : Int) + 1)) 66 0))) := k_12
      refine pw_vret C hr dX10_takeValue_131 ⟨rfl, fun m nk R hRR h9 => ?_, fun k hk => (o_13 k (by omega)).trans ((o_9 k (by omega)).trans (o_5 k (by omega)))⟩
      cases m with
      | zero => exact (mRn_9 hRR h9).elim
      | succ m =>
        rw [mRun_1] at hRR
        have c_16 := ((o_13 1063 (by omega)).trans (o_9 1063 (by omega))).trans k_4
        rw [hen, if_neg (by decide), if_neg hnm] at hRR
        exact ⟨0, _, k, 0, 0, vl, li, t, n, sN, fZ, g1, g2, g3, g4, g5, g6, _, EvM.addv hM' hy0 hadd.2 (by rw [k_15]; rfl) c_16 (fun k hk => (o_13 k (by omega)).trans ((o_9 k (by omega)).trans (o_5 k (by omega)))), Ext.rf, Or.inr (Or.inl ⟨rfl, rfl, rfl, _, S, m, nk, rfl, rfl, hadd.1, hok.2, by omega, hRR⟩)⟩
    · have hnm : nm = yK 3 := by have := (RS.inj hR hcx.1 (hK.v 3 (by decide))).mp (by omega); rw [← x3, this]; rfl
      have hvs : vs = [] := (hok'.2.2 rfl).2 hnm
      have hrl : obLen r = 2 := by have h4 := (hok'.2.2 rfl).1; simp only at h4; rw [hvs, hnm, show arT T (yK 3) = 3 from by unfold arT; rw [if_pos (by rw [kIx_k 3 (by decide)]; decide), kIx_k 3 (by decide)]; rfl] at h4; simp only [List.length_nil] at h4; omega
      have hX4 : r = obCdr (obCdr X0) := by have := x4 hen; rw [hvs] at this; exact this
      have hrp := obLen_pos (x := r) (by omega)
      have hrp2 := obLen_pos (x := obCdr r) (by have := obLen_cdr hrp (by omega); omega)
      rw [hX4] at hrp hrp2
      have hpj := pj4 x2 (obP_cdr hrp) hrp hrp2
      refine pw_aload_n (i := 0) C dX10_takeValue_54 rfl rfl (Or.inr ⟨_, rfl⟩) ?_
      refine pw_get (j := 60) C cl_X10 fl_X10_131 (by decide) rfl a1 rfl dX10_takeValue_55 ?_
      refine pw_stk (st' := [.ref (B 60)]) rfl ?_
      refine pw_iload_n (i := 2) C dX10_takeValue_58 rfl rfl ?_
      refine pw_iconst C dX10_takeValue_59 ?_
      refine pw_zast C b6 ⟨by omega, by omega, by omega⟩ (by decide +kernel) dX10_takeValue_60 (fun w_19 k_17 o_18 => ?_)
      refine pw_aload_n (i := 0) C dX10_takeValue_61 rfl rfl (Or.inr ⟨_, rfl⟩) ?_
      refine pw_aload_n (i := 0) C dX10_takeValue_62 rfl rfl (Or.inr ⟨_, rfl⟩) ?_
      refine pw_aload_n (i := 0) C dX10_takeValue_63 rfl rfl (Or.inr ⟨_, rfl⟩) ?_
      have c_20 := (o_18 1000 (by omega)).trans a1
      refine pw_get (j := 55) C cl_X10 fl_X10_116 (by decide) rfl c_20 rfl dX10_takeValue_64 ?_
      refine pw_stk (st' := [.ref (B 55), .ref b, .ref b]) rfl ?_
      refine pw_iload_n (i := 2) C dX10_takeValue_67 rfl rfl ?_
      have c_21 := (o_18 1056 (by omega)).trans b1
      have g_22 := r1 ((S.length : Nat) : Int)
      refine pw_iald C c_21 ⟨by omega, by omega, by omega⟩ dX10_takeValue_68 ?_
      refine pw_aload_n (i := 0) C dX10_takeValue_69 rfl rfl (Or.inr ⟨_, rfl⟩) ?_
      refine pw_get (j := 67) C cl_X10 fl_X10_368 (by decide) rfl c_20 rfl dX10_takeValue_70 ?_
      refine pw_stk (st' := [.int (iZ vl), .int (iZ (g1 ((S.length : Nat) : Int))), .ref b, .ref b]) rfl ?_
      refine pw_if_ne (tgt := 80) C (by omega) dX10_takeValue_73 (by decide) (fun h_23 => ?_) (fun h_23 => ?_)
      · have hnil : ¬ y0 = oNil := fun q => absurd ((RS.inj hR hy0 hK.nil).mpr q) (by omega)
        refine pw_iconst C dX10_takeValue_80 ?_
        have R_24 := hR.same (w' := w_19) (fun k hk => (o_18 k (by omega)))
        refine pw_callV (As := [.int (iZ (g1 ((S.length : Nat) : Int))), .int (iZ 2)]) (st := [.ref b]) C (m_X10_term g l c_20 R_24 rfl rfl hK x1 (i := 2) (by omega) (fun j hj => hpj j (by omega))) my_X10_term ml_X10_394 (pw_rec.of C c_20 cl_X10.1) rfl ⟨Nat.le_of_ble_eq_true rfl, Nat.le_of_ble_eq_true rfl⟩ ⟨by (try dsimp only); omega, by (try dsimp only); omega⟩ rfl (Nat.le_of_ble_eq_true rfl) dX10_takeValue_81 ?_
        rintro _ _ ⟨rfl, z_25, rfl, z_25v⟩
        have z_25r := Vl.rg R_24 z_25v
        refine pw_stk (st' := [.int (iZ z_25), .ref b]) rfl ?_
        refine pw_aload_n (i := 0) C dX10_takeValue_84 rfl rfl (Or.inr ⟨_, rfl⟩) ?_
        refine pw_get (j := 58) C cl_X10 fl_X10_125 (by decide) rfl c_20 rfl dX10_takeValue_85 ?_
        refine pw_stk (st' := [.ref (B 58), .int (iZ z_25), .ref b]) rfl ?_
        refine pw_iload_n (i := 2) C dX10_takeValue_88 rfl rfl ?_
        have c_26 := (o_18 1059 (by omega)).trans b4
        have g_27 := r4 ((S.length : Nat) : Int)
        refine pw_iald C c_26 ⟨by omega, by omega, by omega⟩ dX10_takeValue_89 ?_
        refine pw_aload_n (i := 0) C dX10_takeValue_90 rfl rfl (Or.inr ⟨_, rfl⟩) ?_
        refine pw_get (j := 59) C cl_X10 fl_X10_128 (by decide) rfl c_20 rfl dX10_takeValue_91 ?_
        refine pw_stk (st' := [.ref (B 59), .int (iZ (g4 ((S.length : Nat) : Int))), .int (iZ z_25), .ref b]) rfl ?_
        refine pw_iload_n (i := 2) C dX10_takeValue_94 rfl rfl ?_
        have c_28 := (o_18 1060 (by omega)).trans b5
        have g_29 := r5 ((S.length : Nat) : Int)
        refine pw_iald C c_28 ⟨by omega, by omega, by omega⟩ dX10_takeValue_95 ?_
        refine pw_iload_n (i := 1) C dX10_takeValue_96 rfl rfl ?_
        have hMe := EvM.grow (w' := w_19) hM' R_24 Ext.rf (by omega) (Nat.le_refl _) (by rw [c_20, hen]) k_17 (fun k hk => (o_18 k (by omega)))
        have hoi := ok_if (x := y0) (by rw [hnm] at hok'; exact hok')
        refine pw_callV (As := [.int (iZ z_25), .int (iZ (g4 ((S.length : Nat) : Int))), .int (iZ (g5 ((S.length : Nat) : Int))), .int (iZ 0)]) (st := []) C (m_X10_beginEval g l h39 h32 h37 hfu hTo hTn hNB4 hMe z_25v (y4.keep Ext.rf (fun _ _ _ => rfl) (by have : vsS ((nm, r, vs, e1, true) :: S) = vs.length + vsS S := rfl; omega)) ⟨r4 _, r5 _⟩ (by have := hoi.1; rw [if_neg hnil, hX4] at this; exact this) ⟨by rw [hnm]; exact hoi.2, hok.2⟩) my_X10_beginEval ml_X10_397 (pw_rec.of C c_20 cl_X10.1) rfl ⟨Nat.le_of_ble_eq_true rfl, Nat.le_of_ble_eq_true rfl⟩ ⟨by (try dsimp only); omega, by (try dsimp only); omega⟩ rfl (Nat.le_of_ble_eq_true rfl) dX10_takeValue_97 ?_
        rintro _ w9 ⟨rfl, hT9, ho9⟩
        refine pw_stk (st' := []) rfl ?_
        refine pw_goto (tgt := 131) C dX10_takeValue_100 (by decide) ?_
        refine pw_vret C hr dX10_takeValue_131 ⟨rfl, fun m nk R hRR h9 => ?_, fun k hk => (ho9 k (by omega)).trans (o_18 k (by omega))⟩
        cases m with
        | zero => exact (mRn_9 hRR h9).elim
        | succ m =>
          rw [mRun_1] at hRR
          rw [hen, if_neg (by decide), if_pos hnm] at hRR
          cases m with
          | zero => exact (mRn_9 hRR h9).elim
          | succ m => exact (hT9 m nk R (by rw [← hRR]; rw [if_neg hnil]; rw [hX4]; rfl)).mono (by omega)
      · have hnil : y0 = oNil := (RS.inj hR hy0 hK.nil).mp (by omega)
        refine pw_iconst C dX10_takeValue_76 ?_
        refine pw_goto (tgt := 81) C dX10_takeValue_77 (by decide) ?_
        have R_30 := hR.same (w' := w_19) (fun k hk => (o_18 k (by omega)))
        refine pw_callV (As := [.int (iZ (g1 ((S.length : Nat) : Int))), .int (iZ 3)]) (st := [.ref b]) C (m_X10_term g l c_20 R_30 rfl rfl hK x1 (i := 3) (by omega) (fun j hj => hpj j (by omega))) my_X10_term ml_X10_394 (pw_rec.of C c_20 cl_X10.1) rfl ⟨Nat.le_of_ble_eq_true rfl, Nat.le_of_ble_eq_true rfl⟩ ⟨by (try dsimp only); omega, by (try dsimp only); omega⟩ rfl (Nat.le_of_ble_eq_true rfl) dX10_takeValue_81 ?_
        rintro _ _ ⟨rfl, z_31, rfl, z_31v⟩
        have z_31r := Vl.rg R_30 z_31v
        refine pw_stk (st' := [.int (iZ z_31), .ref b]) rfl ?_
        refine pw_aload_n (i := 0) C dX10_takeValue_84 rfl rfl (Or.inr ⟨_, rfl⟩) ?_
        refine pw_get (j := 58) C cl_X10 fl_X10_125 (by decide) rfl c_20 rfl dX10_takeValue_85 ?_
        refine pw_stk (st' := [.ref (B 58), .int (iZ z_31), .ref b]) rfl ?_
        refine pw_iload_n (i := 2) C dX10_takeValue_88 rfl rfl ?_
        have c_32 := (o_18 1059 (by omega)).trans b4
        have g_33 := r4 ((S.length : Nat) : Int)
        refine pw_iald C c_32 ⟨by omega, by omega, by omega⟩ dX10_takeValue_89 ?_
        refine pw_aload_n (i := 0) C dX10_takeValue_90 rfl rfl (Or.inr ⟨_, rfl⟩) ?_
        refine pw_get (j := 59) C cl_X10 fl_X10_128 (by decide) rfl c_20 rfl dX10_takeValue_91 ?_
        refine pw_stk (st' := [.ref (B 59), .int (iZ (g4 ((S.length : Nat) : Int))), .int (iZ z_31), .ref b]) rfl ?_
        refine pw_iload_n (i := 2) C dX10_takeValue_94 rfl rfl ?_
        have c_34 := (o_18 1060 (by omega)).trans b5
        have g_35 := r5 ((S.length : Nat) : Int)
        refine pw_iald C c_34 ⟨by omega, by omega, by omega⟩ dX10_takeValue_95 ?_
        refine pw_iload_n (i := 1) C dX10_takeValue_96 rfl rfl ?_
        have hMe := EvM.grow (w' := w_19) hM' R_30 Ext.rf (by omega) (Nat.le_refl _) (by rw [c_20, hen]) k_17 (fun k hk => (o_18 k (by omega)))
        have hoi := ok_if (x := y0) (by rw [hnm] at hok'; exact hok')
        refine pw_callV (As := [.int (iZ z_31), .int (iZ (g4 ((S.length : Nat) : Int))), .int (iZ (g5 ((S.length : Nat) : Int))), .int (iZ 0)]) (st := []) C (m_X10_beginEval g l h39 h32 h37 hfu hTo hTn hNB4 hMe z_31v (y4.keep Ext.rf (fun _ _ _ => rfl) (by have : vsS ((nm, r, vs, e1, true) :: S) = vs.length + vsS S := rfl; omega)) ⟨r4 _, r5 _⟩ (by have := hoi.1; rw [if_pos hnil, hX4] at this; exact this) ⟨by rw [hnm]; exact hoi.2, hok.2⟩) my_X10_beginEval ml_X10_397 (pw_rec.of C c_20 cl_X10.1) rfl ⟨Nat.le_of_ble_eq_true rfl, Nat.le_of_ble_eq_true rfl⟩ ⟨by (try dsimp only); omega, by (try dsimp only); omega⟩ rfl (Nat.le_of_ble_eq_true rfl) dX10_takeValue_97 ?_
        rintro _ w9 ⟨rfl, hT9, ho9⟩
        refine pw_stk (st' := []) rfl ?_
        refine pw_goto (tgt := 131) C dX10_takeValue_100 (by decide) ?_
        refine pw_vret C hr dX10_takeValue_131 ⟨rfl, fun m nk R hRR h9 => ?_, fun k hk => (ho9 k (by omega)).trans (o_18 k (by omega))⟩
        cases m with
        | zero => exact (mRn_9 hRR h9).elim
        | succ m =>
          rw [mRun_1] at hRR
          rw [hen, if_neg (by decide), if_pos hnm] at hRR
          cases m with
          | zero => exact (mRn_9 hRR h9).elim
          | succ m => exact (hT9 m nk R (by rw [← hRR]; rw [if_pos hnil]; rw [hX4]; rfl)).mono (by omega)
  · refine pw_aload_n (i := 0) C dX10_takeValue_16 rfl rfl (Or.inr ⟨_, rfl⟩) ?_
    refine pw_dup C dX10_takeValue_17 rfl ?_
    refine pw_get (j := 61) C cl_X10 fl_X10_371 (by decide) rfl a1 rfl dX10_takeValue_18 ?_
    refine pw_stk (st' := [.int (iZ ((((nm, r, vs, e1, en) :: S).length : Nat) : Int)), .ref b]) rfl ?_
    refine pw_iconst C dX10_takeValue_21 ?_
    refine pw_isub C dX10_takeValue_22 ?_
    refine pw_stk (st' := [.int (iZ ((S.length : Nat) : Int)), .ref b]) (by rw [show ((((nm, r, vs, e1, en) :: S).length : Nat) : Int) - 1 = ((S.length : Nat) : Int) by omega]) ?_
    refine pw_put (j := 61) C cl_X10 fl_X10_371 (by decide) rfl rfl rfl rfl rfl a1 (Nat.le_of_ble_eq_true rfl) dX10_takeValue_23 (fun w_38 k_36 o_37 => ?_)
    have k_39 : w_38 1000 = (b, some (mdE B (va_up (evX x n ((sN : Nat) : Int) ((k : Nat) : Int) ((((nm, r, vs, e1, en) :: S).length : Nat) : Int) ((vsS ((nm, r, vs, e1, en) :: S) : Nat) : Int) li 0 1 vl) 61 ((S.length : Nat) : Int)))) := k_36
    refine pw_aload_n (i := 0) C dX10_takeValue_26 rfl rfl (Or.inr ⟨_, rfl⟩) ?_
    refine pw_aload_n (i := 0) C dX10_takeValue_27 rfl rfl (Or.inr ⟨_, rfl⟩) ?_
    refine pw_get (j := 57) C cl_X10 fl_X10_122 (by decide) rfl k_39 rfl dX10_takeValue_28 ?_
    refine pw_stk (st' := [.ref (B 57), .ref b]) rfl ?_
    refine pw_iload_n (i := 2) C dX10_takeValue_31 rfl rfl ?_
    have c_40 := (o_37 1058 (by omega)).trans b3
    refine pw_iald C c_40 ⟨by omega, by omega, by omega⟩ dX10_takeValue_32 ?_
    refine pw_stk (st' := [.int (iZ ((vsS S : Nat) : Int)), .ref b]) (by rw [y3]) ?_
    refine pw_put (j := 63) C cl_X10 fl_X10_383 (by decide) rfl rfl rfl rfl rfl k_39 (Nat.le_of_ble_eq_true rfl) dX10_takeValue_33 (fun w_43 k_41 o_42 => ?_)
    have k_44 : w_43 1000 = (b, some (mdE B (va_up (va_up (evX x n ((sN : Nat) : Int) ((k : Nat) : Int) ((((nm, r, vs, e1, en) :: S).length : Nat) : Int) ((vsS ((nm, r, vs, e1, en) :: S) : Nat) : Int) li 0 1 vl) 61 ((S.length : Nat) : Int)) 63 ((vsS S : Nat) : Int)))) := k_41
    refine pw_goto (tgt := 131) C dX10_takeValue_36 (by decide) ?_
    refine pw_vret C hr dX10_takeValue_131 ⟨rfl, fun m nk R hRR h9 => ?_, fun k hk => (o_42 k (by omega)).trans (o_37 k (by omega))⟩
    cases m with
    | zero => exact (mRn_9 hRR h9).elim
    | succ m =>
      rw [mRun_1] at hRR
      rw [h_1, if_pos rfl] at hRR
      exact ⟨1, S, k, 0, 1, vl, li, t, n, sN, fZ, g1, g2, g3, g4, g5, g6, fv, EvM.pop hM (by rw [k_44]; rfl) (fun k hk => (o_42 k (by omega)).trans (o_37 k (by omega))), Ext.rf, Or.inl ⟨rfl, rfl, rfl, hok.2, y0, m, nk, by omega, hy0, hRR⟩⟩

