/-- the reference as a whole: what waits, the text, faults, fuel, steps, functions, told; how many objects and symbols -/
def MmI (g : pw_P) (w : pw_W) (b : Nat) (B : Nat → Nat) (fw f : Int → Int) (len rf : Nat) (rp : Int) (fu sp wf : Nat) (T : List Dn) (L : List Int) (n : Int) (sN : Nat) : Prop :=
  ∃ (x : Nat → Int) (t : Int → Ob) (fZ fW : Int → Int) (tk : Int), CmW g w b B x t n sN fZ (plT T) L fu ((sp : Nat) : Int) ((wf : Nat) : Int) tk ∧ (x 13 = ((len : Nat) : Int) ∧ x 21 = ((rf : Nat) : Int) ∧ x 22 = rp) ∧ w 1012 = (B 11, some (AI g 20 fw)) ∧ (∀ j, inI (fw j)) ∧ w 1013 = (B 12, some (AI g 3000 f)) ∧ (∀ j, 0 ≤ f j ∧ f j < 256) ∧ len ≤ 3000 ∧ w 1017 = (B 16, some (AI g 12 fW)) ∧ (∀ j, inI (fW j)) ∧ MdA g w B t n []
theorem Loo.same {g : pw_P} {w w' : pw_W} {B : Nat → Nat} (h : Loo g w B) (hf : ∀ k, (k = 1019 ∨ 1030 < k) → w' k = w k) : Loo g w' B := by
  obtain ⟨h1, h2, h3, h4, h5, h6, h7⟩ := h
  exact ⟨h1.same (fun k hk => hf k (by omega)), h2.same (fun k hk => hf k (by omega)), h3.same (fun k hk => hf k (by omega)), h4.same (fun k hk => hf k (by omega)), h5.same (fun k hk => hf k (by omega)), h6.same (fun k hk => hf k (by omega)), h7.same (fun k hk => hf k (by omega))⟩
theorem MdA.nl {g : pw_P} {w w' : pw_W} {B : Nat → Nat} {t t' : Int → Ob} {n n' : Int} (h : MdA g w B t n []) (hf : ∀ k, (k = 1024 ∨ k = 1025 ∨ k = 1026 ∨ k = 1027 ∨ k = 1029) → w' k = w k) : MdA g w' B t' n' [] := by
  obtain ⟨so, fr, st, la, it, b1, b2, b3, b4, b5, hr, -, -⟩ := h
  exact ⟨so, fr, st, la, it, (hf _ (by omega)).trans b1, (hf _ (by omega)).trans b2, (hf _ (by omega)).trans b3, (hf _ (by omega)).trans b4, (hf _ (by omega)).trans b5, hr, trivial, trivial⟩
theorem MdD.pre {g : pw_P} {w : pw_W} {B : Nat → Nat} {t : Int → Ob} {n : Int} {T E : List Dn} (h : MdD g w B t n (T ++ E)) : MdD g w B t n T := by
  obtain ⟨fn, fm, fv, fb, d1, d2, d3, d4, hu, hDf, h40⟩ := h
  refine ⟨fn, fm, fv, fb, d1, d2, d3, d4, hu, DfM.of (fun j e he => ?_), by simp at h40; omega⟩
  exact DfM.get hDf (by rw [List.getElem?_append_left (List.getElem?_eq_some_iff.mp he).1]; exact he)
theorem MOut.zero {g : pw_P} {w w' : pw_W} {B : Nat → Nat} {v : Int} {L : List Int} (h : MOut g w B v L) (hf : w' 1015 = w 1015) : MOut g w' B 0 [] := by
  obtain ⟨fo, q1, q2, q3⟩ := h
  exact ⟨fo, hf.trans q1, q2, ⟨rfl, fun j hj => absurd hj (by omega)⟩⟩
set_option maxRecDepth 100000 in
set_option maxHeartbeats 4000000 in
/-- run -/
theorem m_X10_run (g : pw_P) (l : Launch) {w : pw_W} {b : Nat} {B : Nat → Nat} {fw f : Int → Int} {len rf : Nat} {rp : Int} {fu sp wf : Nat} {T : List Dn} {L : List Int} {n : Int} {sN : Nat} (hM : MmI g w b B fw f len rf rp fu sp wf T L n sN) (hfu : fu ≤ 1000) (hTo0 : TOk T) (hTn0 : TNs T) (hTz : TSz T) (hcap : n + 8100 ≤ 40000) (hsc : 2 * sN + nzC f len + 1 < 8000) {nk : Nat} : pw_M g l yX10_run cX10_run 3 (some .int) { frames := 9, cells := 0, slots := 0, locals := 207 } [.ref b] w (fun r w' => r = some (.int (iZ (((rnF T fu nk (rTx f len)).1.1 : Nat) : Int))) ∧ (∃ (n' : Int) (s' : Nat), MmI g w' b B fw f 0 (rTx f len).1 (rTx f len).2.1 fu (rnF T fu nk (rTx f len)).1.2.2.1 (rnF T fu nk (rTx f len)).1.2.2.2.1 (rnF T fu nk (rTx f len)).2 (ouF (rnF T fu nk (rTx f len)).1) n' s' ∧ n' ≤ n + 5 * ((min (nzC f len) 1000 : Nat) : Int) + 3 ∧ 2 * s' ≤ 2 * sN + nzC f len + 1) ∧ ∀ k, k < 1000 → w' k = w k) := by
  refine pw_M.of (by decide) (Nat.le_of_ble_eq_true rfl) rfl ?_
  intro p e s m args below meth c C hr hn
  obtain ⟨x, t, fZ, fW, tk, ⟨h0, hR, hK, hD, hLoo, hO, h7, h10, h32, h37, h39, h40, h41, h45, h47, h69, h38⟩, ⟨h13, h21, h22⟩, a11, u11, a12, hfc, hlen, a16, u16, hA⟩ := id hM
  have hRn := hR.n
  refine pw_aload_n (i := 0) C dX10_run_0 rfl rfl (Or.inr ⟨_, rfl⟩) ?_
  refine pw_iconst C dX10_run_1 ?_
  refine pw_put (j := 40) C cl_X10 fl_X10_380 (by decide) rfl rfl rfl rfl rfl h0 (Nat.le_of_ble_eq_true rfl) dX10_run_2 (fun w_3 k_1 o_2 => ?_)
  have k_4 : w_3 1000 = (b, some (mdE B (va_up x 40 0))) := k_1
  refine pw_aload_n (i := 0) C dX10_run_5 rfl rfl (Or.inr ⟨_, rfl⟩) ?_
  refine pw_iconst C dX10_run_6 ?_
  refine pw_put (j := 41) C cl_X10 fl_X10_301 (by decide) rfl rfl rfl rfl rfl k_4 (Nat.le_of_ble_eq_true rfl) dX10_run_7 (fun w_7 k_5 o_6 => ?_)
  have k_8 : w_7 1000 = (b, some (mdE B (va_up (va_up x 40 0) 41 0))) := k_5
  refine pw_aload_n (i := 0) C dX10_run_10 rfl rfl (Or.inr ⟨_, rfl⟩) ?_
  refine pw_iconst C dX10_run_11 ?_
  refine pw_put (j := 15) C cl_X10 fl_X10_265 (by decide) rfl rfl rfl rfl rfl k_8 (Nat.le_of_ble_eq_true rfl) dX10_run_12 (fun w_11 k_9 o_10 => ?_)
  have k_12 : w_11 1000 = (b, some (mdE B (va_up (va_up (va_up x 40 0) 41 0) 15 0))) := k_9
  refine pw_aload_n (i := 0) C dX10_run_15 rfl rfl (Or.inr ⟨_, rfl⟩) ?_
  refine pw_iconst C dX10_run_16 ?_
  refine pw_put (j := 69) C cl_X10 fl_X10_451 (by decide) rfl rfl rfl (by decide +kernel) (by decide +kernel) k_12 (Nat.le_of_ble_eq_true rfl) dX10_run_17 (fun w_15 k_13 o_14 => ?_)
  have k_16 : w_15 1000 = (b, some (mdE B (va_up (va_up (va_up (va_up x 40 0) 41 0) 15 0) 69 0))) := k_13
  refine pw_aload_n (i := 0) C dX10_run_20 rfl rfl (Or.inr ⟨_, rfl⟩) ?_
  refine pw_get (j := 7) C cl_X10 fl_X10_165 (by decide) rfl k_16 rfl dX10_run_21 ?_
  refine pw_stk (st' := [.int (iZ (x 7))]) rfl ?_
  refine pw_stk (st' := [.int (iZ n)]) (by rw [h7]) ?_
  refine pw_istore_n (i := 1) (lv' := [(0, .ref b), (1, .int (iZ n))]) C dX10_run_24 rfl (by decide) rfl ?_
  refine pw_iconst C dX10_run_25 ?_
  refine pw_istore_n (i := 2) (lv' := [(0, .ref b), (1, .int (iZ n)), (2, .int (iZ 1))]) C dX10_run_26 rfl (by decide) rfl ?_
  refine pw_aload_n (i := 0) C dX10_run_27 rfl rfl (Or.inr ⟨_, rfl⟩) ?_
  have R_17 := hR.same (w' := w_15) (fun k hk => (o_14 k (by omega)).trans ((o_10 k (by omega)).trans ((o_6 k (by omega)).trans (o_2 k (by omega)))))
  refine pw_callV (As := []) (st := []) C (m_X10_reads g l k_16 R_17 h7 h10 hK (((o_14 1013 (by omega)).trans ((o_10 1013 (by omega)).trans ((o_6 1013 (by omega)).trans (o_2 1013 (by omega))))).trans a12) hfc hlen h13 (((o_14 1017 (by omega)).trans ((o_10 1017 (by omega)).trans ((o_6 1017 (by omega)).trans (o_2 1017 (by omega))))).trans a16) u16 (hA.nl (fun k hk => (o_14 k (by omega)).trans ((o_10 k (by omega)).trans ((o_6 k (by omega)).trans (o_2 k (by omega)))))) (by omega) hsc) my_X10_reads ml_X10_479 (pw_rec.of C k_16 cl_X10.1) rfl ⟨Nat.le_of_ble_eq_true rfl, Nat.le_of_ble_eq_true rfl⟩ ⟨by (try dsimp only); omega, by (try dsimp only); omega⟩ rfl (Nat.le_of_ble_eq_true rfl) dX10_run_28 ?_
  rintro _ w7 ⟨t7, n7, s7, Z7, q7, a7, o7, i7, h7q, d7, fW7, rfl, y7, R7, x7, hn7, hs7, hZ7, y17, u17, hf7, hA7, hok⟩
  have x71 := x7.1
  have R7n := R7.n
  have K_18 := RK.ext hK x7
  refine pw_stk (st' := [.int (iZ (b2i (decide ((rTx f len).1 = 0))))]) rfl ?_
  refine pw_if_eqB (tgt := 43) C dX10_run_31 (by decide) (fun h_19 => ?_) (fun h_19 => ?_)
  · have hr0 : (rTx f len).1 ≠ 0 := of_decide_eq_false h_19
    have hrn : (rnF T fu nk (rTx f len)) = ((1, none, 0, 0, nk), T) := if_neg hr0
    refine pw_aload_n (i := 0) C dX10_run_43 rfl rfl (Or.inr ⟨_, rfl⟩) ?_
    refine pw_iconst C dX10_run_44 ?_
    refine pw_put (j := 37) C cl_X10 fl_X10_86 (by decide) rfl rfl rfl rfl rfl y7 (Nat.le_of_ble_eq_true rfl) dX10_run_45 (fun w_22 k_20 o_21 => ?_)
    have k_23 : w_22 1000 = (b, some (mdE B (va_up (va_up (wdX (va_up (va_up (va_up (va_up x 40 0) 41 0) 15 0) 69 0) n7 ((s7 : Nat) : Int) q7 a7 (((rTx f len).1 : Nat) : Int) (rTx f len).2.1 o7 i7 h7q d7) 13 0) 37 (-1)))) := k_20
    refine pw_aload_n (i := 0) C dX10_run_48 rfl rfl (Or.inr ⟨_, rfl⟩) ?_
    refine pw_get (j := 69) C cl_X10 fl_X10_451 (by decide) rfl k_23 rfl dX10_run_49 ?_
    refine pw_stk (st' := [.int (iZ 0)]) rfl ?_
    refine pw_if_ne (tgt := 60) C (by omega) dX10_run_52 (by decide) (fun h_24 => ?_) (fun h_24 => ?_)
    · exfalso; omega
    · refine pw_aload_n (i := 0) C dX10_run_55 rfl rfl (Or.inr ⟨_, rfl⟩) ?_
      refine pw_iload_n (i := 1) C dX10_run_56 rfl rfl ?_
      have R_25 := R7.same (w' := w_22) (fun k hk => (o_21 k (by omega)))
      refine pw_callV (As := [.int (iZ n)]) (st := []) C (m_X10_forget g l k_23 R_25 rfl rfl (q := n) ⟨by omega, by omega⟩) my_X10_forget ml_X10_485 (pw_rec.of C k_23 cl_X10.1) rfl ⟨Nat.le_of_ble_eq_true rfl, Nat.le_of_ble_eq_true rfl⟩ ⟨by (try dsimp only); omega, by (try dsimp only); omega⟩ rfl (Nat.le_of_ble_eq_true rfl) dX10_run_57 ?_
      rintro _ w8 ⟨rfl, ⟨s8, y8, R8, hs8⟩, hf8⟩
      refine pw_stk (st' := []) rfl ?_
      refine pw_iload_n (i := 2) C dX10_run_60 rfl rfl ?_
      rw [hrn]
      have hEx : Ext t n t7 n := ⟨Int.le_refl _, x7.2⟩
      exact pw_iret C hr dX10_run_61 ⟨rfl, ⟨n, s8, ⟨(va_up (va_up (va_up (va_up (wdX (va_up (va_up (va_up (va_up x 40 0) 41 0) 15 0) 69 0) n7 ((s7 : Nat) : Int) q7 a7 (((rTx f len).1 : Nat) : Int) (rTx f len).2.1 o7 i7 h7q d7) 13 0) 37 (-1)) 7 n) 10 ((s8 : Nat) : Int)), t7, Z7, fW7, 0, ⟨y8, R8, hK.ext hEx, hD.same (fun k hk => (hf8 k (by omega)).trans ((o_21 k (by omega)).trans ((hf7 k (by omega)).trans ((o_14 k (by omega)).trans ((o_10 k (by omega)).trans ((o_6 k (by omega)).trans (o_2 k (by omega)))))))) hEx, hLoo.same (fun k hk => (hf8 k (by omega)).trans ((o_21 k (by omega)).trans ((hf7 k (by omega)).trans ((o_14 k (by omega)).trans ((o_10 k (by omega)).trans ((o_6 k (by omega)).trans (o_2 k (by omega)))))))), hO.zero ((hf8 1015 (by omega)).trans ((o_21 1015 (by omega)).trans ((hf7 1015 (by omega)).trans ((o_14 1015 (by omega)).trans ((o_10 1015 (by omega)).trans ((o_6 1015 (by omega)).trans (o_2 1015 (by omega)))))))), rfl, rfl, h32, rfl, h39, rfl, rfl, h45, h47, rfl, h38⟩, ⟨rfl, rfl, rfl⟩, ((hf8 1012 (by omega)).trans ((o_21 1012 (by omega)).trans ((hf7 1012 (by omega)).trans ((o_14 1012 (by omega)).trans ((o_10 1012 (by omega)).trans ((o_6 1012 (by omega)).trans (o_2 1012 (by omega)))))))).trans a11, u11, ((hf8 1013 (by omega)).trans ((o_21 1013 (by omega)).trans ((hf7 1013 (by omega)).trans ((o_14 1013 (by omega)).trans ((o_10 1013 (by omega)).trans ((o_6 1013 (by omega)).trans (o_2 1013 (by omega)))))))).trans a12, hfc, Nat.zero_le _, ((hf8 1017 (by omega)).trans (o_21 1017 (by omega))).trans y17, u17, hA7.nl (fun k hk => (hf8 k (by omega)).trans (o_21 k (by omega)))⟩, by omega, by omega⟩, fun k hk => (hf8 k (by omega)).trans ((o_21 k (by omega)).trans ((hf7 k (by omega)).trans ((o_14 k (by omega)).trans ((o_10 k (by omega)).trans ((o_6 k (by omega)).trans (o_2 k (by omega)))))))⟩
  · have hr0 : (rTx f len).1 = 0 := of_decide_eq_true h_19
    obtain ⟨hvx, hn7b, -⟩ := hok hr0
    have hvr := Vl.rg R7 hvx
    have hndx := rTx_nd hr0
    have hrn : (rnF T fu nk (rTx f len)) = cmdF T fu nk (rTx f len).2.2 := if_pos hr0
    refine pw_aload_n (i := 0) C dX10_run_34 rfl rfl (Or.inr ⟨_, rfl⟩) ?_
    refine pw_aload_n (i := 0) C dX10_run_35 rfl rfl (Or.inr ⟨_, rfl⟩) ?_
    refine pw_get (j := 30) C cl_X10 fl_X10_220 (by decide) rfl y7 rfl dX10_run_36 ?_
    refine pw_stk (st' := [.int (iZ h7q), .ref b]) rfl ?_
    have hLo7 := hLoo.same (w' := w7) (fun k hk => (hf7 k (by omega)).trans ((o_14 k (by omega)).trans ((o_10 k (by omega)).trans ((o_6 k (by omega)).trans (o_2 k (by omega))))))
    have D_26 := hD.same (w' := w7) (fun k hk => (hf7 k (by omega)).trans ((o_14 k (by omega)).trans ((o_10 k (by omega)).trans ((o_6 k (by omega)).trans (o_2 k (by omega)))))) x7
    have hC7 : CmW g w7 b B (va_up (wdX (va_up (va_up (va_up (va_up x 40 0) 41 0) 15 0) 69 0) n7 ((s7 : Nat) : Int) q7 a7 (((rTx f len).1 : Nat) : Int) (rTx f len).2.1 o7 i7 h7q d7) 13 0) t7 n7 s7 Z7 (plT T) [] fu 0 0 0 := ⟨y7, R7, K_18, D_26, hLo7, hO.zero ((hf7 1015 (by omega)).trans ((o_14 1015 (by omega)).trans ((o_10 1015 (by omega)).trans ((o_6 1015 (by omega)).trans (o_2 1015 (by omega)))))), rfl, rfl, h32, h37, h39, rfl, rfl, h45, h47, rfl, h38⟩
    refine pw_callV (As := [.int (iZ h7q)]) (st := []) C (m_X10_command g l hC7 hvx hfu hTo0 hTn0 (by omega) (nk := nk) hTz (by omega)) my_X10_command ml_X10_482 (pw_rec.of C y7 cl_X10.1) rfl ⟨Nat.le_of_ble_eq_true rfl, Nat.le_of_ble_eq_true rfl⟩ ⟨by (try dsimp only); omega, by (try dsimp only); omega⟩ rfl (Nat.le_of_ble_eq_true rfl) dX10_run_39 ?_
    rintro _ w9 ⟨x9, t9, n9, s9, Z9, tk9, rfl, ⟨y9, R9, K9, D9, L9, O9, e7, e10, e32, e37, e39, e40, e41, e45, e47, e69, e38⟩, hx9, hn9, hs9, hk9, hf9, htk⟩
    have hx91 := hx9.1
    have R9n := R9.n
    have htkr : tk9 = 0 ∨ tk9 = 1 := htk.imp (fun q => q.1) (fun q => q.1)
    refine pw_stk (st' := [.int (iZ (((cmdF T fu nk (rTx f len).2.2).1.1 : Nat) : Int))]) rfl ?_
    refine pw_istore_n (i := 2) (lv' := [(0, .ref b), (1, .int (iZ n)), (2, .int (iZ (((cmdF T fu nk (rTx f len).2.2).1.1 : Nat) : Int)))]) C dX10_run_42 rfl (by decide) rfl ?_
    refine pw_aload_n (i := 0) C dX10_run_43 rfl rfl (Or.inr ⟨_, rfl⟩) ?_
    refine pw_iconst C dX10_run_44 ?_
    refine pw_put (j := 37) C cl_X10 fl_X10_86 (by decide) rfl rfl rfl rfl rfl y9 (Nat.le_of_ble_eq_true rfl) dX10_run_45 (fun w_29 k_27 o_28 => ?_)
    have k_30 : w_29 1000 = (b, some (mdE B (va_up x9 37 (-1)))) := k_27
    refine pw_aload_n (i := 0) C dX10_run_48 rfl rfl (Or.inr ⟨_, rfl⟩) ?_
    refine pw_get (j := 69) C cl_X10 fl_X10_451 (by decide) rfl k_30 rfl dX10_run_49 ?_
    refine pw_stk (st' := [.int (iZ (x9 69))]) rfl ?_
    refine pw_stk (st' := [.int (iZ tk9)]) (by rw [e69]) ?_
    refine pw_if_ne (tgt := 60) C (by omega) dX10_run_52 (by decide) (fun h_31 => ?_) (fun h_31 => ?_)
    · refine pw_iload_n (i := 2) C dX10_run_60 rfl rfl ?_
      rw [hrn]
      obtain ⟨htk1, hn9b⟩ := htk.resolve_left (fun q => by omega)
      exact pw_iret C hr dX10_run_61 ⟨rfl, ⟨n9, s9, ⟨(va_up x9 37 (-1)), t9, Z9, fW7, tk9, ⟨k_30, R9.same (fun k hk => (o_28 k (by omega))), K9, D9.same (fun k hk => (o_28 k (by omega))) Ext.rf, L9.same (fun k hk => (o_28 k (by omega))), O9.same ((o_28 1015 (by omega))), e7, e10, e32, rfl, e39, e40, e41, e45, e47, e69, e38⟩, ⟨hk9.1, hk9.2.1, hk9.2.2⟩, ((o_28 1012 (by omega)).trans ((hf9 1012 (by omega)).trans ((hf7 1012 (by omega)).trans ((o_14 1012 (by omega)).trans ((o_10 1012 (by omega)).trans ((o_6 1012 (by omega)).trans (o_2 1012 (by omega)))))))).trans a11, u11, ((o_28 1013 (by omega)).trans ((hf9 1013 (by omega)).trans ((hf7 1013 (by omega)).trans ((o_14 1013 (by omega)).trans ((o_10 1013 (by omega)).trans ((o_6 1013 (by omega)).trans (o_2 1013 (by omega)))))))).trans a12, hfc, Nat.zero_le _, ((o_28 1017 (by omega)).trans (hf9 1017 (by omega))).trans y17, u17, hA7.nl (fun k hk => (o_28 k (by omega)).trans (hf9 k (by omega)))⟩, by omega, by omega⟩, fun k hk => (o_28 k (by omega)).trans ((hf9 k (by omega)).trans ((hf7 k (by omega)).trans ((o_14 k (by omega)).trans ((o_10 k (by omega)).trans ((o_6 k (by omega)).trans (o_2 k (by omega)))))))⟩
    · refine pw_aload_n (i := 0) C dX10_run_55 rfl rfl (Or.inr ⟨_, rfl⟩) ?_
      refine pw_iload_n (i := 1) C dX10_run_56 rfl rfl ?_
      have R_32 := R9.same (w' := w_29) (fun k hk => (o_28 k (by omega)))
      refine pw_callV (As := [.int (iZ n)]) (st := []) C (m_X10_forget g l k_30 R_32 e7 e10 (q := n) ⟨by omega, by omega⟩) my_X10_forget ml_X10_485 (pw_rec.of C k_30 cl_X10.1) rfl ⟨Nat.le_of_ble_eq_true rfl, Nat.le_of_ble_eq_true rfl⟩ ⟨by (try dsimp only); omega, by (try dsimp only); omega⟩ rfl (Nat.le_of_ble_eq_true rfl) dX10_run_57 ?_
      rintro _ w8 ⟨rfl, ⟨s8, y8, R8, hs8⟩, hf8⟩
      refine pw_stk (st' := []) rfl ?_
      refine pw_iload_n (i := 2) C dX10_run_60 rfl rfl ?_
      rw [hrn]
      obtain ⟨htk0, hdf, E, hE⟩ := htk.resolve_right (fun q => by omega)
      have hx79 := x7.tr hx9
      have hEx : Ext t n t9 n := ⟨Int.le_refl _, hx79.2⟩
      have hDp : MdD g w B t n (plT (cmdF T fu nk (rTx f len).2.2).2) := by have := hD; rw [hE] at this; exact this.pre
      exact pw_iret C hr dX10_run_61 ⟨rfl, ⟨n, s8, ⟨(va_up (va_up (va_up x9 37 (-1)) 7 n) 10 ((s8 : Nat) : Int)), t9, Z9, fW7, 0, ⟨y8, R8, hK.ext hEx, hDp.same (fun k hk => ((hf8 k (by omega)).trans (o_28 k (by omega))).trans ((hdf k hk).trans ((hf7 k (by omega)).trans ((o_14 k (by omega)).trans ((o_10 k (by omega)).trans ((o_6 k (by omega)).trans (o_2 k (by omega)))))))) hEx, L9.same (fun k hk => (hf8 k (by omega)).trans (o_28 k (by omega))), O9.same ((hf8 1015 (by omega)).trans (o_28 1015 (by omega))), rfl, rfl, e32, rfl, e39, e40, e41, e45, e47, e69.trans htk0, e38⟩, ⟨hk9.1, hk9.2.1, hk9.2.2⟩, ((hf8 1012 (by omega)).trans ((o_28 1012 (by omega)).trans ((hf9 1012 (by omega)).trans ((hf7 1012 (by omega)).trans ((o_14 1012 (by omega)).trans ((o_10 1012 (by omega)).trans ((o_6 1012 (by omega)).trans (o_2 1012 (by omega))))))))).trans a11, u11, ((hf8 1013 (by omega)).trans ((o_28 1013 (by omega)).trans ((hf9 1013 (by omega)).trans ((hf7 1013 (by omega)).trans ((o_14 1013 (by omega)).trans ((o_10 1013 (by omega)).trans ((o_6 1013 (by omega)).trans (o_2 1013 (by omega))))))))).trans a12, hfc, Nat.zero_le _, ((hf8 1017 (by omega)).trans ((o_28 1017 (by omega)).trans (hf9 1017 (by omega)))).trans y17, u17, hA7.nl (fun k hk => (hf8 k (by omega)).trans ((o_28 k (by omega)).trans (hf9 k (by omega))))⟩, by omega, by omega⟩, fun k hk => (hf8 k (by omega)).trans ((o_28 k (by omega)).trans ((hf9 k (by omega)).trans ((hf7 k (by omega)).trans ((o_14 k (by omega)).trans ((o_10 k (by omega)).trans ((o_6 k (by omega)).trans (o_2 k (by omega))))))))⟩

