abbrev cmD (w w' : pw_W) : Prop := ∀ k, (k < 1000 ∨ (1010 < k ∧ k < 1015) ∨ (1015 < k ∧ k < 1019) ∨ (1019 < k ∧ k < 1034) ∨ 1069 < k) → w' k = w k
/-- any command has been done -/
def rCg (g : pw_P) (w w' : pw_W) (b : Nat) (B : Nat → Nat) (x : Nat → Int) (t : Int → Ob) (n : Int) (sN fu : Nat) (U T : List Dn) (R : Cr) (nd : Nat) (cost : Int) (r : Option Value) : Prop :=
  ∃ (x' : Nat → Int) (t' : Int → Ob) (n' : Int) (s' : Nat) (fZ' : Int → Int) (tk : Int), r = some (.int (iZ ((R.1 : Nat) : Int))) ∧ CmW g w' b B x' t' n' s' fZ' T (ouF R) fu ((R.2.2.1 : Nat) : Int) ((R.2.2.2.1 : Nat) : Int) tk ∧ Ext t n t' n' ∧ n' ≤ n + cost ∧ s' ≤ sN ∧ K3 x' x ∧ cmD w w' ∧ ((tk = 0 ∧ (∀ k, (1034 ≤ k ∧ k ≤ 1037) → w' k = w k) ∧ ∃ E, U = T ++ E) ∨ (tk = 1 ∧ n' ≤ n + 3 * ((nd : Nat) : Int) + 3))
theorem rCc.g {g : pw_P} {w w' : pw_W} {b : Nat} {B : Nat → Nat} {x : Nat → Int} {t : Int → Ob} {n : Int} {sN fu : Nat} {U T : List Dn} {R : Cr} {cost c2 : Int} {nd : Nat} {r : Option Value} (h : rCc g w w' b B x t n sN fu T R cost r) (hE : ∃ E, U = T ++ E) (hc : cost ≤ c2) : rCg g w w' b B x t n sN fu U T R nd c2 r := by
  obtain ⟨x', t', n', s', fZ', h1, h2, h3, h4, h5, h6, h7⟩ := h
  exact ⟨x', t', n', s', fZ', 0, h1, h2, h3, by omega, h5, h6, fun k hk => h7 k (by omega), Or.inl ⟨rfl, fun k hk => h7 k (by omega), hE⟩⟩
theorem rCg.of {g : pw_P} {w w' : pw_W} {b : Nat} {B : Nat → Nat} {x : Nat → Int} {t : Int → Ob} {n : Int} {sN fu : Nat} {U T T0 : List Dn} {R R0 : Cr} {nd : Nat} {cost : Int} {r : Option Value} (e0 : T = T0) (e : R = R0) (h : rCg g w w' b B x t n sN fu U T0 R0 nd cost r) : rCg g w w' b B x t n sN fu U T R nd cost r := e0 ▸ e ▸ h
theorem dSet_get {N P X : Ob} : ∀ {T : List Dn} {i D : Nat}, dIx T N i = some D → ∀ j : Nat, (dSet T N P X)[j]? = if j + i = D then some (N, P, X) else T[j]?
  | [], _, _, h, _ => by cases h
  | d :: T, i, D, h, j => by
    simp only [dIx] at h
    simp only [dSet]
    by_cases e : d.1 = N
    · rw [if_pos e] at h
      have hi : i = D := Option.some.inj h
      rw [if_pos e]
      cases j with
      | zero => rw [if_pos (by omega), e]; rfl
      | succ j => rw [if_neg (by omega)]; rfl
    · rw [if_neg e] at h
      rw [if_neg e]
      cases j with
      | zero =>
        obtain ⟨q, g1, g2, g3, g4, g5⟩ := dIx_get h
        rw [if_neg (by omega)]; rfl
      | succ j =>
        have := dSet_get (N := N) (P := P) (X := X) h j
        rw [List.getElem?_cons_succ, this, List.getElem?_cons_succ]
        by_cases q : j + (i + 1) = D
        · rw [if_pos q, if_pos (by omega)]
        · rw [if_neg q, if_neg (by omega)]
theorem DfM.app {fn fm fv fb fv' : Int → Int} {t : Int → Ob} {n : Int} {T : List Dn} {z1 z4 : Int} {N P X : Ob} (h : DfM fn fm fv fb t n 0 T) (h6 : ∀ d ∈ T, 0 ≤ obLen d.2.1 ∧ obLen d.2.1 ≤ 6) (h1 : Vl t n z1 N) (h3 : VlsI t n fv' (6 * ((T.length : Nat) : Int)) (lsO P)) (hv : ∀ j : Int, (j < 6 * ((T.length : Nat) : Int) ∨ 6 * ((T.length : Nat) : Int) + 6 ≤ j) → fv' j = fv j) (h4 : Vl t n z4 X) : DfM (upz fn ((T.length : Nat) : Int) z1) (upz fm ((T.length : Nat) : Int) (obLen P)) fv' (upz fb ((T.length : Nat) : Int) z4) t n 0 (T ++ [(N, P, X)]) := by
  refine DfM.of (fun j e he => ?_)
  by_cases c : j < T.length
  · rw [List.getElem?_append_left c] at he
    obtain ⟨g1, g2, g3, g4⟩ := DfM.get h he
    have h6' := h6 e (List.mem_of_getElem? he)
    have hl := lsO_len (R0 := e.2.1) h6'.1
    rw [Nat.zero_add] at g1 g2 g3 g4 ⊢
    rw [upz_ne _ _ (by omega), upz_ne _ _ (by omega), upz_ne _ _ (by omega)]
    exact ⟨g1, g2, g3.cg (fun q q0 q1 => hv q (by omega)), g4⟩
  · have hj : j = T.length := by
      have := (List.getElem?_eq_some_iff.mp he).1
      simp at this
      omega
    rw [hj] at he ⊢
    have he2 : (N, P, X) = e := by simpa using he
    rw [Nat.zero_add, upz_self, upz_self, upz_self, ← he2]
    exact ⟨h1, rfl, h3, h4⟩
theorem DfM.set {fn fm fv fb fv' : Int → Int} {t : Int → Ob} {n : Int} {T : List Dn} {D : Nat} {z4 : Int} {N P X : Ob} (h : DfM fn fm fv fb t n 0 T) (hd : dIx T N 0 = some D) (h6 : ∀ d ∈ T, 0 ≤ obLen d.2.1 ∧ obLen d.2.1 ≤ 6) (h3 : VlsI t n fv' (6 * ((D : Nat) : Int)) (lsO P)) (hv : ∀ j : Int, (j < 6 * ((D : Nat) : Int) ∨ 6 * ((D : Nat) : Int) + 6 ≤ j) → fv' j = fv j) (h4 : Vl t n z4 X) : DfM fn (upz fm ((D : Nat) : Int) (obLen P)) fv' (upz fb ((D : Nat) : Int) z4) t n 0 (dSet T N P X) := by
  refine DfM.of (fun j e he => ?_)
  rw [dSet_get hd] at he
  obtain ⟨q, k1, k2, k3, k4, k5⟩ := dIx_get hd
  by_cases c : j + 0 = D
  · rw [if_pos c] at he
    have he2 : (N, P, X) = e := Option.some.inj he
    have g1 := (DfM.get h k1).1
    rw [Nat.sub_zero, k2, Nat.zero_add] at g1
    rw [show 0 + j = D by omega, upz_self, upz_self, ← he2]
    exact ⟨g1, rfl, h3, h4⟩
  · rw [if_neg c] at he
    obtain ⟨g1, g2, g3, g4⟩ := DfM.get h he
    have h6' := h6 e (List.mem_of_getElem? he)
    have hl := lsO_len (R0 := e.2.1) h6'.1
    rw [Nat.zero_add] at g1 g2 g3 g4 ⊢
    rw [upz_ne _ _ (by omega), upz_ne _ _ (by omega)]
    exact ⟨g1, g2, g3.cg (fun q q0 q1 => hv q (by omega)), g4⟩
theorem arePs_len {P : Ob} (h : arePs P = true) : 0 ≤ obLen P ∧ obLen P ≤ 6 := by
  unfold arePs at h
  rw [Bool.and_eq_true] at h
  exact of_decide_eq_true h.1
theorem plT_own (N P : Ob) (T : List Dn) : plT ((N, P, oNil) :: T) = (N, P, oNil) :: plT T := rfl
theorem defC_no {T : List Dn} {N P X : Ob} (h : isDef T N P X = false) : defC T N P X = (2, T) ∧ redoC T N P X = (2, T) := by
  unfold defC redoC
  rw [h]
  exact ⟨rfl, rfl⟩
set_option maxRecDepth 100000 in
set_option maxHeartbeats 4000000 in
/-- defun -/
theorem m_X10_defun (g : pw_P) (l : Launch) {w : pw_W} {b : Nat} {B : Nat → Nat} {x : Nat → Int} {t : Int → Ob} {n : Int} {sN : Nat} {fZ : Int → Int} {T : List Dn} {fu : Nat} (hC : CmW g w b B x t n sN fZ (plT T) [] fu 0 0 0) {o : Int} {X : Ob} (ho : Vl t n o X) (hfu : fu ≤ 1000) (hTo0 : TOk T) (hTn0 : TNs T) (hnd : (nd2 X).1 ≤ 1000) {nk : Nat} (hcap : n + 3020 ≤ 40000) : pw_M g l yX10_defun cX10_defun 8 (some .int) { frames := 7, cells := 0, slots := 0, locals := 159 } [.ref b, .int (iZ o), .int (iZ 0)] w (fun r w' => rCg g w w' b B x t n sN fu (plT T) (plT (if obLen X = 4 then (defC T (obCar (obCdr X)) (obCar (obCdr (obCdr X))) (obCar (obCdr (obCdr (obCdr X))))).2 else T)) (if obLen X = 4 then ((defC T (obCar (obCdr X)) (obCar (obCdr (obCdr X))) (obCar (obCdr (obCdr (obCdr X))))).1, none, 0, 0, nk) else (2, none, 0, 0, nk)) (nd2 X).1 3010 r) := by
  refine pw_M.of (by decide) (Nat.le_of_ble_eq_true rfl) rfl ?_
  intro p e s m args below meth c C hr hn
  obtain ⟨h0, hR, hK, hD, ⟨hBt, hWk, hIt, hEv, hTp, hTl, hMp⟩, hO, h7, h10, h32, h37, h39, h40, h41, h45, h47, h69, h38⟩ := id hC
  have hRn := hR.n
  have hor := Vl.rg hR ho
  have hTo := hTo0.pl
  have hTn := hTn0.pl
  have hDl : ∀ d ∈ plT T, 0 ≤ obLen d.2.1 := fun d hd => (hTo d hd).2.1
  have hT6 : ∀ d ∈ plT T, obLen d.2.1 ≤ 6 := fun d hd => (hTo d hd).2.2.1
  obtain ⟨fn, fm, dv, fb, d1, d2, d3, d4, ⟨u1, u2, u3, u4⟩, hDf, hT40⟩ := id hD
  refine pw_aload_n (i := 0) C dX10_defun_0 rfl rfl (Or.inr ⟨_, rfl⟩) ?_
  refine pw_iload_n (i := 1) C dX10_defun_1 rfl rfl ?_
  refine pw_callV (As := [.int (iZ o)]) (st := []) C (m_X10_lengthOf g l h0 hR h7 h10 hK ho) my_X10_lengthOf ml_X10_325 (pw_rec.of C h0 cl_X10.1) rfl ⟨Nat.le_of_ble_eq_true rfl, Nat.le_of_ble_eq_true rfl⟩ ⟨by (try dsimp only); omega, by (try dsimp only); omega⟩ rfl (Nat.le_of_ble_eq_true rfl) dX10_defun_2 ?_
  rintro _ _ ⟨rfl, rfl⟩
  refine pw_stk (st' := [.int (iZ (obLen X))]) rfl ?_
  have g_11 := obLen_rg hR ho
  refine pw_iconst C dX10_defun_5 ?_
  refine pw_icmp_ne (tgt := 37) C (by omega) (by omega) dX10_defun_6 (by decide) (fun h_12 => ?_) (fun h_12 => ?_)
  · refine pw_iconst C dX10_defun_37 ?_
    exact pw_iret C hr dX10_defun_38 (rCg.of (T0 := plT T) (by rw [if_neg (by omega)]) (R0 := (2, none, 0, 0, nk)) (if_neg (by omega)) ⟨x, t, n, sN, fZ, 0, rfl, ⟨h0, hR, hK, hD, ⟨hBt, hWk, hIt, hEv, hTp, hTl, hMp⟩, hO, h7, h10, h32, h37, h39, h40, h41, h45, h47, h69, h38⟩, Ext.rf, by omega, by omega, ⟨rfl, rfl, rfl⟩, fun k hk => rfl, Or.inl ⟨rfl, fun k hk => rfl, [], (List.append_nil _).symm⟩⟩)
  · refine pw_aload_n (i := 0) C dX10_defun_9 rfl rfl (Or.inr ⟨_, rfl⟩) ?_
    refine pw_aload_n (i := 0) C dX10_defun_10 rfl rfl (Or.inr ⟨_, rfl⟩) ?_
    refine pw_iload_n (i := 1) C dX10_defun_11 rfl rfl ?_
    refine pw_iconst C dX10_defun_12 ?_
    refine pw_callV (As := [.int (iZ o), .int (iZ 1)]) (st := [.ref b]) C (m_X10_nth g l h0 hR h7 h10 hK ho (i := 1) (by omega) (fun q hq => ln_p (k := 4) (by omega) q (by omega))) my_X10_nth ml_X10_292 (pw_rec.of C h0 cl_X10.1) rfl ⟨Nat.le_of_ble_eq_true rfl, Nat.le_of_ble_eq_true rfl⟩ ⟨by (try dsimp only); omega, by (try dsimp only); omega⟩ rfl (Nat.le_of_ble_eq_true rfl) dX10_defun_13 ?_
    rintro _ _ ⟨rfl, z_13, rfl, z_13q⟩
    have z_13v : Vl t n z_13 (obCar (obCdr X)) := z_13q
    have z_13r := Vl.rg hR z_13v
    refine pw_stk (st' := [.int (iZ z_13), .ref b]) rfl ?_
    refine pw_callV (As := [.int (iZ z_13)]) (st := []) C (m_X10_isNewName g l h0 hR h7 h10 hK z_13v) my_X10_isNewName ml_X10_442 (pw_rec.of C h0 cl_X10.1) rfl ⟨Nat.le_of_ble_eq_true rfl, Nat.le_of_ble_eq_true rfl⟩ ⟨by (try dsimp only); omega, by (try dsimp only); omega⟩ rfl (Nat.le_of_ble_eq_true rfl) dX10_defun_16 ?_
    rintro _ _ ⟨rfl, rfl⟩
    refine pw_stk (st' := [.int (iZ (b2i (isFN (obCar (obCdr X)))))]) rfl ?_
    refine pw_if_eqB (tgt := 37) C dX10_defun_19 (by decide) (fun h_14 => ?_) (fun h_14 => ?_)
    · refine pw_iconst C dX10_defun_37 ?_
      have hK0 : (defC T (obCar (obCdr X)) (obCar (obCdr (obCdr X))) (obCar (obCdr (obCdr (obCdr X))))) = (2, T) := by exact (defC_no (by unfold isDef; rw [h_14]; rfl)).1
      exact pw_iret C hr dX10_defun_38 (rCg.of (T0 := plT T) (by rw [if_pos (by omega), hK0]) (R0 := (2, none, 0, 0, nk)) ((if_pos (by omega)).trans (by rw [hK0])) ⟨x, t, n, sN, fZ, 0, rfl, ⟨h0, hR, hK, hD, ⟨hBt, hWk, hIt, hEv, hTp, hTl, hMp⟩, hO, h7, h10, h32, h37, h39, h40, h41, h45, h47, h69, h38⟩, Ext.rf, by omega, by omega, ⟨rfl, rfl, rfl⟩, fun k hk => rfl, Or.inl ⟨rfl, fun k hk => rfl, [], (List.append_nil _).symm⟩⟩)
    · have hfn := h_14
      refine pw_aload_n (i := 0) C dX10_defun_22 rfl rfl (Or.inr ⟨_, rfl⟩) ?_
      refine pw_aload_n (i := 0) C dX10_defun_23 rfl rfl (Or.inr ⟨_, rfl⟩) ?_
      refine pw_iload_n (i := 1) C dX10_defun_24 rfl rfl ?_
      refine pw_iconst C dX10_defun_25 ?_
      refine pw_callV (As := [.int (iZ o), .int (iZ 2)]) (st := [.ref b]) C (m_X10_nth g l h0 hR h7 h10 hK ho (i := 2) (by omega) (fun q hq => ln_p (k := 4) (by omega) q (by omega))) my_X10_nth ml_X10_292 (pw_rec.of C h0 cl_X10.1) rfl ⟨Nat.le_of_ble_eq_true rfl, Nat.le_of_ble_eq_true rfl⟩ ⟨by (try dsimp only); omega, by (try dsimp only); omega⟩ rfl (Nat.le_of_ble_eq_true rfl) dX10_defun_26 ?_
      rintro _ _ ⟨rfl, z_15, rfl, z_15q⟩
      have z_15v : Vl t n z_15 (obCar (obCdr (obCdr X))) := z_15q
      have z_15r := Vl.rg hR z_15v
      refine pw_stk (st' := [.int (iZ z_15), .ref b]) rfl ?_
      refine pw_bipush C dX10_defun_29 (by decide) ?_
      refine pw_callV (As := [.int (iZ z_15), .int (iZ 6)]) (st := []) C (m_X10_areVariables g l h0 hR h7 h10 hK z_15v) my_X10_areVariables ml_X10_448 (pw_rec.of C h0 cl_X10.1) rfl ⟨Nat.le_of_ble_eq_true rfl, Nat.le_of_ble_eq_true rfl⟩ ⟨by (try dsimp only); omega, by (try dsimp only); omega⟩ rfl (Nat.le_of_ble_eq_true rfl) dX10_defun_31 ?_
      rintro _ _ ⟨rfl, rfl⟩
      refine pw_stk (st' := [.int (iZ (b2i (arePs (obCar (obCdr (obCdr X))))))]) rfl ?_
      refine pw_if_neB (tgt := 39) C dX10_defun_34 (by decide) (fun h_16 => ?_) (fun h_16 => ?_)
      · have hps := h_16
        have hPn := arePs_len hps
        have hfnn := fn_ne hfn
        have hT1n : TNs (((obCar (obCdr X)), (obCar (obCdr (obCdr X))), oNil) :: plT T) := fun d hd => by
          rcases List.mem_cons.mp hd with e | e
          · rw [e]; exact ⟨hfnn.2.2.1, hfnn.2.2.2⟩
          · exact hTn d e
        have hT1r : ∀ d ∈ (((obCar (obCdr X)), (obCar (obCdr (obCdr X))), oNil) :: plT T), obLen d.2.1 ≤ 6 := fun d hd => by
          rcases List.mem_cons.mp hd with e | e
          · rw [e]; exact hPn.2
          · exact hT6 d e
        have hndz : (nd2 (obCar (obCdr (obCdr (obCdr X))))).1 ≤ 1000 := Nat.le_trans (nd2_at (Nat.le_refl _) 2 (fun i hi => ln_p (k := 4) (by omega) (i + 1) (by omega))).1 hnd
        have hndx : (nd2 (obCar (obCdr (obCdr (obCdr X))))).1 ≤ (nd2 X).1 := (nd2_at (Nat.le_refl _) 2 (fun i hi => ln_p (k := 4) (by omega) (i + 1) (by omega))).1
        have hPl := lsO_len (R0 := (obCar (obCdr (obCdr X)))) hPn.1
        refine pw_aload_n (i := 0) C dX10_defun_39 rfl rfl (Or.inr ⟨_, rfl⟩) ?_
        refine pw_iload_n (i := 1) C dX10_defun_40 rfl rfl ?_
        refine pw_iconst C dX10_defun_41 ?_
        refine pw_callV (As := [.int (iZ o), .int (iZ 1)]) (st := []) C (m_X10_nth g l h0 hR h7 h10 hK ho (i := 1) (by omega) (fun q hq => ln_p (k := 4) (by omega) q (by omega))) my_X10_nth ml_X10_292 (pw_rec.of C h0 cl_X10.1) rfl ⟨Nat.le_of_ble_eq_true rfl, Nat.le_of_ble_eq_true rfl⟩ ⟨by (try dsimp only); omega, by (try dsimp only); omega⟩ rfl (Nat.le_of_ble_eq_true rfl) dX10_defun_42 ?_
        rintro _ _ ⟨rfl, z_17, rfl, z_17q⟩
        have z_17v : Vl t n z_17 (obCar (obCdr X)) := z_17q
        have z_17r := Vl.rg hR z_17v
        refine pw_stk (st' := [.int (iZ z_17)]) rfl ?_
        refine pw_istore_n (i := 3) (lv' := [(0, .ref b), (1, .int (iZ o)), (2, .int (iZ 0)), (3, .int (iZ z_17))]) C dX10_defun_45 rfl (by decide) rfl ?_
        refine pw_aload_n (i := 0) C dX10_defun_46 rfl rfl (Or.inr ⟨_, rfl⟩) ?_
        refine pw_iload_n (i := 1) C dX10_defun_47 rfl rfl ?_
        refine pw_iconst C dX10_defun_48 ?_
        refine pw_callV (As := [.int (iZ o), .int (iZ 2)]) (st := []) C (m_X10_nth g l h0 hR h7 h10 hK ho (i := 2) (by omega) (fun q hq => ln_p (k := 4) (by omega) q (by omega))) my_X10_nth ml_X10_292 (pw_rec.of C h0 cl_X10.1) rfl ⟨Nat.le_of_ble_eq_true rfl, Nat.le_of_ble_eq_true rfl⟩ ⟨by (try dsimp only); omega, by (try dsimp only); omega⟩ rfl (Nat.le_of_ble_eq_true rfl) dX10_defun_49 ?_
        rintro _ _ ⟨rfl, z_18, rfl, z_18q⟩
        have z_18v : Vl t n z_18 (obCar (obCdr (obCdr X))) := z_18q
        have z_18r := Vl.rg hR z_18v
        refine pw_stk (st' := [.int (iZ z_18)]) rfl ?_
        refine pw_istore (lv' := [(0, .ref b), (1, .int (iZ o)), (2, .int (iZ 0)), (3, .int (iZ z_17)), (4, .int (iZ z_18))]) C dX10_defun_52 (by decide) rfl ?_
        refine pw_aload_n (i := 0) C dX10_defun_54 rfl rfl (Or.inr ⟨_, rfl⟩) ?_
        refine pw_iload_n (i := 3) C dX10_defun_55 rfl rfl ?_
        refine pw_put (j := 37) C cl_X10 fl_X10_86 (by decide) rfl rfl rfl rfl rfl h0 (Nat.le_of_ble_eq_true rfl) dX10_defun_56 (fun w_21 k_19 o_20 => ?_)
        have k_22 : w_21 1000 = (b, some (mdE B (va_up x 37 z_17))) := k_19
        refine pw_aload_n (i := 0) C dX10_defun_59 rfl rfl (Or.inr ⟨_, rfl⟩) ?_
        refine pw_aload_n (i := 0) C dX10_defun_60 rfl rfl (Or.inr ⟨_, rfl⟩) ?_
        refine pw_iload C dX10_defun_61 rfl ?_
        have R_23 := hR.same (w' := w_21) (fun k hk => (o_20 k (by omega)))
        refine pw_callV (As := [.int (iZ z_18)]) (st := [.ref b]) C (m_X10_lengthOf g l k_22 R_23 h7 h10 hK z_18v) my_X10_lengthOf ml_X10_325 (pw_rec.of C k_22 cl_X10.1) rfl ⟨Nat.le_of_ble_eq_true rfl, Nat.le_of_ble_eq_true rfl⟩ ⟨by (try dsimp only); omega, by (try dsimp only); omega⟩ rfl (Nat.le_of_ble_eq_true rfl) dX10_defun_63 ?_
        rintro _ _ ⟨rfl, rfl⟩
        refine pw_stk (st' := [.int (iZ (obLen (obCar (obCdr (obCdr X))))), .ref b]) rfl ?_
        have g_24 := obLen_rg R_23 z_18v
        refine pw_put (j := 38) C cl_X10 fl_X10_298 (by decide) rfl rfl rfl rfl rfl k_22 (Nat.le_of_ble_eq_true rfl) dX10_defun_66 (fun w_27 k_25 o_26 => ?_)
        have k_28 : w_27 1000 = (b, some (mdE B (va_up (va_up x 37 z_17) 38 (obLen (obCar (obCdr (obCdr X))))))) := k_25
        refine pw_aload_n (i := 0) C dX10_defun_69 rfl rfl (Or.inr ⟨_, rfl⟩) ?_
        refine pw_aload_n (i := 0) C dX10_defun_70 rfl rfl (Or.inr ⟨_, rfl⟩) ?_
        refine pw_iload_n (i := 1) C dX10_defun_71 rfl rfl ?_
        refine pw_iconst C dX10_defun_72 ?_
        have R_29 := R_23.same (w' := w_27) (fun k hk => (o_26 k (by omega)))
        refine pw_callV (As := [.int (iZ o), .int (iZ 3)]) (st := [.ref b]) C (m_X10_nth g l k_28 R_29 h7 h10 hK ho (i := 3) (by omega) (fun q hq => ln_p (k := 4) (by omega) q (by omega))) my_X10_nth ml_X10_292 (pw_rec.of C k_28 cl_X10.1) rfl ⟨Nat.le_of_ble_eq_true rfl, Nat.le_of_ble_eq_true rfl⟩ ⟨by (try dsimp only); omega, by (try dsimp only); omega⟩ rfl (Nat.le_of_ble_eq_true rfl) dX10_defun_73 ?_
        rintro _ _ ⟨rfl, z_30, rfl, z_30q⟩
        have z_30v : Vl t n z_30 (obCar (obCdr (obCdr (obCdr X)))) := z_30q
        have z_30r := Vl.rg R_29 z_30v
        refine pw_stk (st' := [.int (iZ z_30), .ref b]) rfl ?_
        have G_31 := hBt.same (w' := w_27) (fun k hk => (o_26 k (by omega)).trans (o_20 k (by omega)))
        have D_32 := hD.same (w' := w_27) (fun k hk => (o_26 k (by omega)).trans (o_20 k (by omega))) Ext.rf
        obtain ⟨q_33a, q_33b, q_33c, q_33d, q_33h⟩ := G_31
        refine pw_callV (As := [.int (iZ z_30)]) (st := []) C (m_X10_termOf g l k_28 R_29 h7 h10 hK D_32 h32 z_30v hTn hDl (cm := z_17) (cn := obLen (obCar (obCdr (obCdr X)))) (Or.inr ⟨(obCar (obCdr X)), (obCar (obCdr (obCdr X))), z_17v, hfnn.2.2.1, rfl, rfl⟩) hT1n hT1r hPn.1 rfl ⟨by omega, by omega⟩ rfl h45 h47 q_33h hndz (by have := hndz; omega)) my_X10_termOf ml_X10_430 (pw_rec.of C k_28 cl_X10.1) rfl ⟨Nat.le_of_ble_eq_true rfl, Nat.le_of_ble_eq_true rfl⟩ ⟨by (try dsimp only); omega, by (try dsimp only); omega⟩ rfl (Nat.le_of_ble_eq_true rfl) dX10_defun_76 ?_
        rintro _ w_45 ⟨z_34, t_35, n_36, sN_37, Z_38, f_48, f_49, f_50, f_51, rfl, e_39, R_40, x_41, hn_42, hs_43, hv_47, A_46, o_44⟩
        have x_411 := x_41.1
        have R_40n := R_40.n
        have z_34d := hndz
        have v_52 := Vl.ext ho x_41
        have v_53 := Vl.ext z_13v x_41
        have v_54 := Vl.ext z_15v x_41
        have v_55 := Vl.ext z_17v x_41
        have v_56 := Vl.ext z_18v x_41
        have v_57 := Vl.ext z_30v x_41
        have K_58 := RK.ext hK x_41
        have G_59 : gBt g w_45 B := ⟨f_48, f_49, f_50, f_51, A_46⟩
        have z_34r : -1 ≤ z_34 ∧ z_34 < 40000 := by
          split at hv_47
          · have := Vl.rg R_40 hv_47; omega
          · omega
        refine pw_stk (st' := [.int (iZ z_34)]) rfl ?_
        refine pw_istore (lv' := [(0, .ref b), (1, .int (iZ o)), (2, .int (iZ 0)), (3, .int (iZ z_17)), (4, .int (iZ z_18)), (5, .int (iZ z_34))]) C dX10_defun_79 (by decide) rfl ?_
        refine pw_aload_n (i := 0) C dX10_defun_81 rfl rfl (Or.inr ⟨_, rfl⟩) ?_
        refine pw_iconst C dX10_defun_82 ?_
        refine pw_put (j := 37) C cl_X10 fl_X10_86 (by decide) rfl rfl rfl rfl rfl e_39 (Nat.le_of_ble_eq_true rfl) dX10_defun_83 (fun w_62 k_60 o_61 => ?_)
        have k_63 : w_62 1000 = (b, some (mdE B (va_up (va_up (va_up (va_up (va_up x 37 z_17) 38 (obLen (obCar (obCdr (obCdr X))))) 7 n_36) 10 ((sN_37 : Nat) : Int)) 37 (-1)))) := k_60
        refine pw_iload C dX10_defun_86 rfl ?_
        refine pw_iconst C dX10_defun_88 ?_
        refine pw_icmp_eq (tgt := 103) C (by omega) (by omega) dX10_defun_89 (by decide) (fun h_64 => ?_) (fun h_64 => ?_)
        · have hno : isTm (((obCar (obCdr X)), (obCar (obCdr (obCdr X))), oNil) :: plT T) va1 (obCar (obCdr (obCdr (obCdr X)))) = false := by
            cases hb : isTm (((obCar (obCdr X)), (obCar (obCdr (obCdr X))), oNil) :: plT T) va1 (obCar (obCdr (obCdr (obCdr X)))) with
            | false => rfl
            | true => rw [hb, if_pos rfl] at hv_47; have := Vl.rg R_40 hv_47; omega
          refine pw_iconst C dX10_defun_103 ?_
          have hK0 : (defC T (obCar (obCdr X)) (obCar (obCdr (obCdr X))) (obCar (obCdr (obCdr (obCdr X))))) = (2, T) := by exact (defC_no (by unfold isDef; rw [isTm_two, ← isTm_plT _ va1, plT_own, hno, Bool.false_and, Bool.and_false])).1
          have R_65 := R_40.same (w' := w_62) (fun k hk => (o_61 k (by omega)))
          have D_66 := D_32.same (w' := w_62) (fun k hk => (o_61 k (by omega)).trans (o_44 k (by omega))) x_41
          have G_67 := G_59.same (w' := w_62) (fun k hk => (o_61 k (by omega)))
          have G_68 := hWk.same (w' := w_62) (fun k hk => (o_61 k (by omega)).trans ((o_44 k (by omega)).trans ((o_26 k (by omega)).trans (o_20 k (by omega)))))
          have G_69 := hIt.same (w' := w_62) (fun k hk => (o_61 k (by omega)).trans ((o_44 k (by omega)).trans ((o_26 k (by omega)).trans (o_20 k (by omega)))))
          have G_70 := hEv.same (w' := w_62) (fun k hk => (o_61 k (by omega)).trans ((o_44 k (by omega)).trans ((o_26 k (by omega)).trans (o_20 k (by omega)))))
          have G_71 := hTp.same (w' := w_62) (fun k hk => (o_61 k (by omega)).trans ((o_44 k (by omega)).trans ((o_26 k (by omega)).trans (o_20 k (by omega)))))
          have G_72 := hTl.same (w' := w_62) (fun k hk => (o_61 k (by omega)).trans ((o_44 k (by omega)).trans ((o_26 k (by omega)).trans (o_20 k (by omega)))))
          have G_73 := hMp.same (w' := w_62) (fun k hk => (o_61 k (by omega)).trans ((o_44 k (by omega)).trans ((o_26 k (by omega)).trans (o_20 k (by omega)))))
          exact pw_iret C hr dX10_defun_104 (rCg.of (T0 := plT T) (by rw [if_pos (by omega), hK0]) (R0 := (2, none, 0, 0, nk)) ((if_pos (by omega)).trans (by rw [hK0])) ⟨(va_up (va_up (va_up (va_up (va_up x 37 z_17) 38 (obLen (obCar (obCdr (obCdr X))))) 7 n_36) 10 ((sN_37 : Nat) : Int)) 37 (-1)), t_35, n_36, sN_37, Z_38, 0, rfl, ⟨k_63, R_65, K_58, D_66, ⟨G_67, G_68, G_69, G_70, G_71, G_72, G_73⟩, (hO.same ((o_61 1015 (by omega)).trans ((o_44 1015 (by omega)).trans ((o_26 1015 (by omega)).trans (o_20 1015 (by omega)))))), rfl, rfl, h32, rfl, h39, h40, h41, h45, h47, h69, hPn.1⟩, x_41, by omega, by omega, ⟨rfl, rfl, rfl⟩, fun k hk => (o_61 k (by omega)).trans ((o_44 k (by omega)).trans ((o_26 k (by omega)).trans (o_20 k (by omega)))), Or.inl ⟨rfl, fun k hk => (o_61 k (by omega)).trans ((o_44 k (by omega)).trans ((o_26 k (by omega)).trans (o_20 k (by omega)))), [], (List.append_nil _).symm⟩⟩)
        · have hyes : isTm (((obCar (obCdr X)), (obCar (obCdr (obCdr X))), oNil) :: plT T) va1 (obCar (obCdr (obCdr (obCdr X)))) = true := by
            cases hb : isTm (((obCar (obCdr X)), (obCar (obCdr (obCdr X))), oNil) :: plT T) va1 (obCar (obCdr (obCdr (obCdr X)))) with
            | true => rfl
            | false => rw [hb] at hv_47; have : z_34 = -1 := hv_47; omega
          rw [hyes, if_pos rfl] at hv_47
          have z_34r := Vl.rg R_40 hv_47
          have hyesp := isTm_pl hyes
          refine pw_aload_n (i := 0) C dX10_defun_92 rfl rfl (Or.inr ⟨_, rfl⟩) ?_
          refine pw_iload C dX10_defun_93 rfl ?_
          refine pw_iload C dX10_defun_95 rfl ?_
          have R_74 := R_40.same (w' := w_62) (fun k hk => (o_61 k (by omega)))
          have G_75 := hWk.same (w' := w_62) (fun k hk => (o_61 k (by omega)).trans ((o_44 k (by omega)).trans ((o_26 k (by omega)).trans (o_20 k (by omega)))))
          have G_76 := hIt.same (w' := w_62) (fun k hk => (o_61 k (by omega)).trans ((o_44 k (by omega)).trans ((o_26 k (by omega)).trans (o_20 k (by omega)))))
          obtain ⟨q_77a, q_771, q_772⟩ := G_75
          obtain ⟨q_77b, q_773, q_774⟩ := G_76
          refine pw_callV (As := [.int (iZ z_34), .int (iZ z_18)]) (st := []) C (m_X10_hasOnly g l k_63 R_74 rfl rfl K_58 hv_47 (P := (obCar (obCdr (obCdr X)))) v_56 hPn.1 q_771 q_772 q_773 q_774 hyesp.1 hyesp.2) my_X10_hasOnly ml_X10_433 (pw_rec.of C k_63 cl_X10.1) rfl ⟨Nat.le_of_ble_eq_true rfl, Nat.le_of_ble_eq_true rfl⟩ ⟨by (try dsimp only); omega, by (try dsimp only); omega⟩ rfl (Nat.le_of_ble_eq_true rfl) dX10_defun_97 ?_
          rintro _ w_88 ⟨rfl, ⟨v_78, u_79, fw_80, fi_81, e_82, e_83, g_84, e_85, g_86⟩, o_87⟩
          have G_89 : gWk g w_88 B := ⟨fw_80, e_83, g_84⟩
          have G_90 : gIt g w_88 B := ⟨fi_81, e_85, g_86⟩
          refine pw_stk (st' := [.int (iZ (b2i ((vr2 (fun q => obEl q (obCar (obCdr (obCdr X)))) (pl2 (obCar (obCdr (obCdr (obCdr X))))).1).1)))]) rfl ?_
          refine pw_if_neB (tgt := 105) C dX10_defun_100 (by decide) (fun h_91 => ?_) (fun h_91 => ?_)
          · have hdef : isDef T (obCar (obCdr X)) (obCar (obCdr (obCdr X))) (obCar (obCdr (obCdr (obCdr X)))) = true := by unfold isDef; rw [hfn, hps, isTm_ref _ _ _ (by rw [← isTm_plT, plT_own]; exact hyes), h_91]; rfl
            refine pw_aload_n (i := 0) C dX10_defun_105 rfl rfl (Or.inr ⟨_, rfl⟩) ?_
            refine pw_iload_n (i := 3) C dX10_defun_106 rfl rfl ?_
            have R_92 := R_74.same (w' := w_88) (fun k hk => (o_87 k (by omega)))
            have D_93 := D_32.same (w' := w_88) (fun k hk => (o_87 k (by omega)).trans ((o_61 k (by omega)).trans (o_44 k (by omega)))) x_41
            refine pw_callV (As := [.int (iZ z_17)]) (st := []) C (m_X10_definition g l e_82 R_92 rfl rfl K_58 D_93 h32 v_55) my_X10_definition ml_X10_445 (pw_rec.of C e_82 cl_X10.1) rfl ⟨Nat.le_of_ble_eq_true rfl, Nat.le_of_ble_eq_true rfl⟩ ⟨by (try dsimp only); omega, by (try dsimp only); omega⟩ rfl (Nat.le_of_ble_eq_true rfl) dX10_defun_107 ?_
            rintro _ _ ⟨rfl, rfl⟩
            have hixr := oIx_in (X := (obCar (obCdr X))) hT40
            refine pw_stk (st' := [.int (iZ (oIx (dIx (plT T) (obCar (obCdr X)) 0) 0))]) rfl ?_
            refine pw_istore (lv' := [(0, .ref b), (1, .int (iZ o)), (2, .int (iZ 0)), (3, .int (iZ z_17)), (4, .int (iZ z_18)), (5, .int (iZ z_34)), (6, .int (iZ (oIx (dIx (plT T) (obCar (obCdr X)) 0) 0)))]) C dX10_defun_110 (by decide) rfl ?_
            refine pw_iload_n (i := 2) C dX10_defun_112 rfl rfl ?_
            refine pw_if_eq (tgt := 140) C (by omega) dX10_defun_113 (by decide) (fun h_94 => ?_) (fun h_94 => ?_)
            · refine pw_iload_n (i := 2) C dX10_defun_140 rfl rfl ?_
              refine pw_iload C dX10_defun_141 rfl ?_
              refine pw_iconst C dX10_defun_143 ?_
              refine pw_icmp_ne (tgt := 151) C (by omega) (by omega) dX10_defun_144 (by decide) (fun h_95 => ?_) (fun h_95 => ?_)
              · obtain ⟨j, d, hje, hjd, hjg, hd1, hdl, hjl⟩ := oIx_yes (T := T) (X := (obCar (obCdr X))) (by omega)
                rw [hje]
                have hgj := DfM.get hDf hjg
                rw [Nat.zero_add] at hgj
                have hP6 := hT6 _ (List.mem_of_getElem? hjg)
                have hP0 := hDl _ (List.mem_of_getElem? hjg)
                have hPl := lsO_len (R0 := (plD d).2.1) hP0
                have hfm := hgj.2.1
                refine pw_iconst C dX10_defun_151 ?_
                refine pw_icmp_ne (tgt := 157) C (by omega) (by omega) dX10_defun_152 (by decide) (fun h_96 => ?_) (fun h_96 => ?_)
                · exfalso; omega
                · refine pw_iconst C dX10_defun_155 ?_
                  have hK0 : (defC T (obCar (obCdr X)) (obCar (obCdr (obCdr X))) (obCar (obCdr (obCdr (obCdr X))))) = (3, T) := by unfold defC; rw [if_pos hdef, hdl]
                  have G_97 := G_59.same (w' := w_88) (fun k hk => (o_87 k (by omega)).trans (o_61 k (by omega)))
                  have G_98 := hEv.same (w' := w_88) (fun k hk => (o_87 k (by omega)).trans ((o_61 k (by omega)).trans ((o_44 k (by omega)).trans ((o_26 k (by omega)).trans (o_20 k (by omega))))))
                  have G_99 := hTp.same (w' := w_88) (fun k hk => (o_87 k (by omega)).trans ((o_61 k (by omega)).trans ((o_44 k (by omega)).trans ((o_26 k (by omega)).trans (o_20 k (by omega))))))
                  have G_100 := hTl.same (w' := w_88) (fun k hk => (o_87 k (by omega)).trans ((o_61 k (by omega)).trans ((o_44 k (by omega)).trans ((o_26 k (by omega)).trans (o_20 k (by omega))))))
                  have G_101 := hMp.same (w' := w_88) (fun k hk => (o_87 k (by omega)).trans ((o_61 k (by omega)).trans ((o_44 k (by omega)).trans ((o_26 k (by omega)).trans (o_20 k (by omega))))))
                  exact pw_iret C hr dX10_defun_156 (rCg.of (T0 := plT T) (by rw [if_pos (by omega), hK0]) (R0 := (3, none, 0, 0, nk)) ((if_pos (by omega)).trans (by rw [hK0])) ⟨(va_up (va_up (va_up (va_up (va_up (va_up (va_up x 37 z_17) 38 (obLen (obCar (obCdr (obCdr X))))) 7 n_36) 10 ((sN_37 : Nat) : Int)) 37 (-1)) 49 v_78) 51 u_79), t_35, n_36, sN_37, Z_38, 0, rfl, ⟨e_82, R_92, K_58, D_93, ⟨G_97, G_89, G_90, G_98, G_99, G_100, G_101⟩, (hO.same ((o_87 1015 (by omega)).trans ((o_61 1015 (by omega)).trans ((o_44 1015 (by omega)).trans ((o_26 1015 (by omega)).trans (o_20 1015 (by omega))))))), rfl, rfl, h32, rfl, h39, h40, h41, h45, h47, h69, hPn.1⟩, x_41, by omega, by omega, ⟨rfl, rfl, rfl⟩, fun k hk => (o_87 k (by omega)).trans ((o_61 k (by omega)).trans ((o_44 k (by omega)).trans ((o_26 k (by omega)).trans (o_20 k (by omega))))), Or.inl ⟨rfl, fun k hk => (o_87 k (by omega)).trans ((o_61 k (by omega)).trans ((o_44 k (by omega)).trans ((o_26 k (by omega)).trans (o_20 k (by omega))))), [], (List.append_nil _).symm⟩⟩)
              · have hdn : dLk T (obCar (obCdr X)) = none := oIx_no (by omega)
                refine pw_iconst C dX10_defun_147 ?_
                refine pw_goto (tgt := 152) C dX10_defun_148 (by decide) ?_
                refine pw_icmp_ne (tgt := 157) C (by omega) (by omega) dX10_defun_152 (by decide) (fun h_102 => ?_) (fun h_102 => ?_)
                · refine pw_iload_n (i := 2) C dX10_defun_157 rfl rfl ?_
                  refine pw_if_ne (tgt := 173) C (by omega) dX10_defun_158 (by decide) (fun h_103 => ?_) (fun h_103 => ?_)
                  · exfalso; omega
                  · refine pw_aload_n (i := 0) C dX10_defun_161 rfl rfl (Or.inr ⟨_, rfl⟩) ?_
                    refine pw_get (j := 32) C cl_X10 fl_X10_295 (by decide) rfl e_82 rfl dX10_defun_162 ?_
                    refine pw_stk (st' := [.int (iZ (x 32))]) rfl ?_
                    refine pw_stk (st' := [.int (iZ (((plT T).length : Nat) : Int))]) (by rw [h32]) ?_
                    refine pw_bipush C dX10_defun_165 (by decide) ?_
                    refine pw_icmp_ne (tgt := 173) C (by omega) (by omega) dX10_defun_167 (by decide) (fun h_104 => ?_) (fun h_104 => ?_)
                    · refine pw_iload_n (i := 2) C dX10_defun_173 rfl rfl ?_
                      refine pw_if_ne (tgt := 201) C (by omega) dX10_defun_174 (by decide) (fun h_105 => ?_) (fun h_105 => ?_)
                      · exfalso; omega
                      · refine pw_aload_n (i := 0) C dX10_defun_177 rfl rfl (Or.inr ⟨_, rfl⟩) ?_
                        refine pw_get (j := 32) C cl_X10 fl_X10_295 (by decide) rfl e_82 rfl dX10_defun_178 ?_
                        refine pw_stk (st' := [.int (iZ (x 32))]) rfl ?_
                        refine pw_stk (st' := [.int (iZ (((plT T).length : Nat) : Int))]) (by rw [h32]) ?_
                        refine pw_istore (lv' := [(0, .ref b), (1, .int (iZ o)), (2, .int (iZ 0)), (3, .int (iZ z_17)), (4, .int (iZ z_18)), (5, .int (iZ z_34)), (6, .int (iZ (((plT T).length : Nat) : Int)))]) C dX10_defun_181 (by decide) rfl ?_
                        refine pw_aload_n (i := 0) C dX10_defun_183 rfl rfl (Or.inr ⟨_, rfl⟩) ?_
                        refine pw_get (j := 33) C cl_X10 fl_X10_74 (by decide) rfl e_82 rfl dX10_defun_184 ?_
                        refine pw_stk (st' := [.ref (B 33)]) rfl ?_
                        refine pw_iload C dX10_defun_187 rfl ?_
                        refine pw_iload_n (i := 3) C dX10_defun_189 rfl rfl ?_
                        have c_106 := ((o_87 1034 (by omega)).trans ((o_61 1034 (by omega)).trans ((o_44 1034 (by omega)).trans ((o_26 1034 (by omega)).trans (o_20 1034 (by omega)))))).trans d1
                        refine pw_iast C c_106 ⟨by omega, by omega, by omega⟩ dX10_defun_190 (fun w_109 k_107 o_108 => ?_)
                        refine pw_aload_n (i := 0) C dX10_defun_191 rfl rfl (Or.inr ⟨_, rfl⟩) ?_
                        refine pw_dup C dX10_defun_192 rfl ?_
                        have c_110 := (o_108 1000 (by omega)).trans e_82
                        refine pw_get (j := 32) C cl_X10 fl_X10_295 (by decide) rfl c_110 rfl dX10_defun_193 ?_
                        refine pw_stk (st' := [.int (iZ (x 32)), .ref b]) rfl ?_
                        refine pw_stk (st' := [.int (iZ (((plT T).length : Nat) : Int)), .ref b]) (by rw [h32]) ?_
                        refine pw_iconst C dX10_defun_196 ?_
                        refine pw_iadd C dX10_defun_197 ?_
                        refine pw_put (j := 32) C cl_X10 fl_X10_295 (by decide) rfl rfl rfl rfl rfl c_110 (Nat.le_of_ble_eq_true rfl) dX10_defun_198 (fun w_113 k_111 o_112 => ?_)
                        have k_114 : w_113 1000 = (b, some (mdE B (va_up (va_up (va_up (va_up (va_up (va_up (va_up (va_up x 37 z_17) 38 (obLen (obCar (obCdr (obCdr X))))) 7 n_36) 10 ((sN_37 : Nat) : Int)) 37 (-1)) 49 v_78) 51 u_79) 32 ((((plT T).length : Nat) : Int) + 1)))) := k_111
                        refine pw_aload_n (i := 0) C dX10_defun_201 rfl rfl (Or.inr ⟨_, rfl⟩) ?_
                        refine pw_get (j := 34) C cl_X10 fl_X10_77 (by decide) rfl k_114 rfl dX10_defun_202 ?_
                        refine pw_stk (st' := [.ref (B 34)]) rfl ?_
                        refine pw_iload C dX10_defun_205 rfl ?_
                        refine pw_aload_n (i := 0) C dX10_defun_207 rfl rfl (Or.inr ⟨_, rfl⟩) ?_
                        refine pw_iload C dX10_defun_208 rfl ?_
                        have R_115 := R_92.same (w' := w_113) (fun k hk => (o_112 k (by omega)).trans (o_108 k (by omega)))
                        refine pw_callV (As := [.int (iZ z_18)]) (st := [.int (iZ (((plT T).length : Nat) : Int)), .ref (B 34)]) C (m_X10_lengthOf g l k_114 R_115 rfl rfl K_58 v_56) my_X10_lengthOf ml_X10_325 (pw_rec.of C k_114 cl_X10.1) rfl ⟨Nat.le_of_ble_eq_true rfl, Nat.le_of_ble_eq_true rfl⟩ ⟨by (try dsimp only); omega, by (try dsimp only); omega⟩ rfl (Nat.le_of_ble_eq_true rfl) dX10_defun_210 ?_
                        rintro _ _ ⟨rfl, rfl⟩
                        refine pw_stk (st' := [.int (iZ (obLen (obCar (obCdr (obCdr X))))), .int (iZ (((plT T).length : Nat) : Int)), .ref (B 34)]) rfl ?_
                        have g_116 := obLen_rg R_115 v_56
                        have c_117 := ((o_112 1035 (by omega)).trans ((o_108 1035 (by omega)).trans ((o_87 1035 (by omega)).trans ((o_61 1035 (by omega)).trans ((o_44 1035 (by omega)).trans ((o_26 1035 (by omega)).trans (o_20 1035 (by omega)))))))).trans d2
                        refine pw_iast C c_117 ⟨by omega, by omega, by omega⟩ dX10_defun_213 (fun w_120 k_118 o_119 => ?_)
                        refine pw_iconst C dX10_defun_214 ?_
                        refine pw_istore (lv' := [(0, .ref b), (1, .int (iZ o)), (2, .int (iZ 0)), (3, .int (iZ z_17)), (4, .int (iZ z_18)), (5, .int (iZ z_34)), (6, .int (iZ (((plT T).length : Nat) : Int))), (7, .int (iZ 0))]) C dX10_defun_215 (by decide) rfl ?_
                        have hdvo : w_120 1036 = (B 35, some (AI g 240 dv)) := ((o_119 1036 (by omega)).trans ((o_112 1036 (by omega)).trans ((o_108 1036 (by omega)).trans ((o_87 1036 (by omega)).trans ((o_61 1036 (by omega)).trans ((o_44 1036 (by omega)).trans ((o_26 1036 (by omega)).trans (o_20 1036 (by omega))))))))).trans d3
                        have loop : ∀ (kk k : Nat) (w1 : pw_W) (dv1 : Int → Int), k + kk = (lsO (obCar (obCdr (obCdr X)))).length → w1 1036 = (B 35, some (AI g 240 dv1)) → (∀ j, inI (dv1 j)) → VlsI t_35 n_36 dv1 (6 * (((plT T).length : Nat) : Int)) ((lsO (obCar (obCdr (obCdr X)))).take k) → (∀ i0 : Int, (i0 < 6 * (((plT T).length : Nat) : Int) ∨ 6 * (((plT T).length : Nat) : Int) + 6 ≤ i0) → dv1 i0 = dv i0) → (∀ q, q ≠ 1036 → w1 q = w_120 q) → pw_G g p l e { frames := 7, cells := 0, slots := 0, locals := 159 } s m args below meth c 8 (pw_Q g below (fun r w' => rCg g w w' b B x t n sN fu (plT T) (plT (if obLen X = 4 then (defC T (obCar (obCdr X)) (obCar (obCdr (obCdr X))) (obCar (obCdr (obCdr (obCdr X))))).2 else T)) (if obLen X = 4 then ((defC T (obCar (obCdr X)) (obCar (obCdr (obCdr X))) (obCar (obCdr (obCdr (obCdr X))))).1, none, 0, 0, nk) else (2, none, 0, 0, nk)) (nd2 X).1 3010 r) args s { frames := 7, cells := 0, slots := 0, locals := 159 }) 0 0 217 [(0, .ref b), (1, .int (iZ o)), (2, .int (iZ 0)), (3, .int (iZ z_17)), (4, .int (iZ z_18)), (5, .int (iZ z_34)), (6, .int (iZ (((plT T).length : Nat) : Int))), (7, .int (iZ ((k : Nat) : Int)))] [] w1 := by
                          intro kk
                          induction kk with
                          | zero =>
                            intro k w1 dv1 hkk y36 u35 hvs hvo hf1
                            refine pw_iload C dX10_defun_217 rfl ?_
                            refine pw_aload_n (i := 0) C dX10_defun_219 rfl rfl (Or.inr ⟨_, rfl⟩) ?_
                            have c_321 := ((hf1 1000 (by omega)).trans (o_119 1000 (by omega))).trans k_114
                            refine pw_get (j := 34) C cl_X10 fl_X10_77 (by decide) rfl c_321 rfl dX10_defun_220 ?_
                            refine pw_stk (st' := [.ref (B 34), .int (iZ ((k : Nat) : Int))]) rfl ?_
                            refine pw_iload C dX10_defun_223 rfl ?_
                            have c_322 := (hf1 1035 (by omega)).trans k_118
                            refine pw_iald C c_322 ⟨by omega, by omega, by omega⟩ dX10_defun_225 ?_
                            rw [upz_self]
                            refine pw_stk (st' := [.int (iZ (obLen (obCar (obCdr (obCdr X))))), .int (iZ ((k : Nat) : Int))]) rfl ?_
                            refine pw_icmp_ge (tgt := 256) C (by omega) (by omega) dX10_defun_226 (by decide) (fun h_323 => ?_) (fun h_323 => ?_)
                            · refine pw_aload_n (i := 0) C dX10_defun_256 rfl rfl (Or.inr ⟨_, rfl⟩) ?_
                              refine pw_get (j := 36) C cl_X10 fl_X10_83 (by decide) rfl c_321 rfl dX10_defun_257 ?_
                              refine pw_stk (st' := [.ref (B 36)]) rfl ?_
                              refine pw_iload C dX10_defun_260 rfl ?_
                              refine pw_iload C dX10_defun_262 rfl ?_
                              have c_324 := ((hf1 1037 (by omega)).trans ((o_119 1037 (by omega)).trans ((o_112 1037 (by omega)).trans ((o_108 1037 (by omega)).trans ((o_87 1037 (by omega)).trans ((o_61 1037 (by omega)).trans ((o_44 1037 (by omega)).trans ((o_26 1037 (by omega)).trans (o_20 1037 (by omega)))))))))).trans d4
                              refine pw_iast C c_324 ⟨by omega, by omega, by omega⟩ dX10_defun_264 (fun w_327 k_325 o_326 => ?_)
                              refine pw_aload_n (i := 0) C dX10_defun_265 rfl rfl (Or.inr ⟨_, rfl⟩) ?_
                              refine pw_iconst C dX10_defun_266 ?_
                              have c_328 := (o_326 1000 (by omega)).trans c_321
                              refine pw_put (j := 69) C cl_X10 fl_X10_451 (by decide) rfl rfl rfl (by decide +kernel) (by decide +kernel) c_328 (Nat.le_of_ble_eq_true rfl) dX10_defun_267 (fun w_331 k_329 o_330 => ?_)
                              have k_332 : w_331 1000 = (b, some (mdE B (va_up (va_up (va_up (va_up (va_up (va_up (va_up (va_up (va_up x 37 z_17) 38 (obLen (obCar (obCdr (obCdr X))))) 7 n_36) 10 ((sN_37 : Nat) : Int)) 37 (-1)) 49 v_78) 51 u_79) 32 ((((plT T).length : Nat) : Int) + 1)) 69 1))) := k_329
                              refine pw_iconst C dX10_defun_270 ?_
                              have c_333 := ((o_330 1034 (by omega)).trans ((o_326 1034 (by omega)).trans ((hf1 1034 (by omega)).trans ((o_119 1034 (by omega)).trans (o_112 1034 (by omega)))))).trans k_107
                              have c_334 := ((o_330 1035 (by omega)).trans (o_326 1035 (by omega))).trans c_322
                              have c_335 := ((o_330 1036 (by omega)).trans (o_326 1036 (by omega))).trans y36
                              have c_336 := (o_330 1037 (by omega)).trans k_325
                              have htk : (lsO (obCar (obCdr (obCdr X)))).take k = lsO (obCar (obCdr (obCdr X))) := List.take_of_length_le (by omega)
                              rw [htk] at hvs
                              have hK0 : (defC T (obCar (obCdr X)) (obCar (obCdr (obCdr X))) (obCar (obCdr (obCdr (obCdr X))))) = (0, T ++ [((obCar (obCdr X)), (obCar (obCdr (obCdr X))), (obCar (obCdr (obCdr (obCdr X)))))]) := by unfold defC; rw [if_pos hdef, hdn]; exact if_neg (by have := plT_len T; omega)
                              have hnT : plT (T ++ [((obCar (obCdr X)), (obCar (obCdr (obCdr X))), (obCar (obCdr (obCdr (obCdr X)))))]) = (plT T ++ [((obCar (obCdr X)), (obCar (obCdr (obCdr X))), (pl2 (obCar (obCdr (obCdr (obCdr X))))).1)]) := plT_app _ _ _ _
                              have hDx : MdD g w_331 B t_35 n_36 (plT T ++ [((obCar (obCdr X)), (obCar (obCdr (obCdr X))), (pl2 (obCar (obCdr (obCdr (obCdr X))))).1)]) := ⟨_, _, _, _, c_333, c_334, c_335, c_336, ⟨upz_inI u1 (by omega), upz_inI u2 (by omega), u35, upz_inI u4 (by omega)⟩, DfM.app (hDf.ext x_41) (fun e he => ⟨hDl e he, hT6 e he⟩) v_55 hvs hvo hv_47, by rw [List.length_append]; show (plT T).length + 1 ≤ 40; omega⟩
                              have R_337 := R_115.same (w' := w_331) (fun k hk => (o_330 k (by omega)).trans ((o_326 k (by omega)).trans ((hf1 k (by omega)).trans (o_119 k (by omega)))))
                              have G_338 := G_59.same (w' := w_331) (fun k hk => (o_330 k (by omega)).trans ((o_326 k (by omega)).trans ((hf1 k (by omega)).trans ((o_119 k (by omega)).trans ((o_112 k (by omega)).trans ((o_108 k (by omega)).trans ((o_87 k (by omega)).trans (o_61 k (by omega)))))))))
                              have G_339 := G_89.same (w' := w_331) (fun k hk => (o_330 k (by omega)).trans ((o_326 k (by omega)).trans ((hf1 k (by omega)).trans ((o_119 k (by omega)).trans ((o_112 k (by omega)).trans (o_108 k (by omega)))))))
                              have G_340 := G_90.same (w' := w_331) (fun k hk => (o_330 k (by omega)).trans ((o_326 k (by omega)).trans ((hf1 k (by omega)).trans ((o_119 k (by omega)).trans ((o_112 k (by omega)).trans (o_108 k (by omega)))))))
                              have G_341 := hEv.same (w' := w_331) (fun k hk => (o_330 k (by omega)).trans ((o_326 k (by omega)).trans ((hf1 k (by omega)).trans ((o_119 k (by omega)).trans ((o_112 k (by omega)).trans ((o_108 k (by omega)).trans ((o_87 k (by omega)).trans ((o_61 k (by omega)).trans ((o_44 k (by omega)).trans ((o_26 k (by omega)).trans (o_20 k (by omega))))))))))))
                              have G_342 := hTp.same (w' := w_331) (fun k hk => (o_330 k (by omega)).trans ((o_326 k (by omega)).trans ((hf1 k (by omega)).trans ((o_119 k (by omega)).trans ((o_112 k (by omega)).trans ((o_108 k (by omega)).trans ((o_87 k (by omega)).trans ((o_61 k (by omega)).trans ((o_44 k (by omega)).trans ((o_26 k (by omega)).trans (o_20 k (by omega))))))))))))
                              have G_343 := hTl.same (w' := w_331) (fun k hk => (o_330 k (by omega)).trans ((o_326 k (by omega)).trans ((hf1 k (by omega)).trans ((o_119 k (by omega)).trans ((o_112 k (by omega)).trans ((o_108 k (by omega)).trans ((o_87 k (by omega)).trans ((o_61 k (by omega)).trans ((o_44 k (by omega)).trans ((o_26 k (by omega)).trans (o_20 k (by omega))))))))))))
                              have G_344 := hMp.same (w' := w_331) (fun k hk => (o_330 k (by omega)).trans ((o_326 k (by omega)).trans ((hf1 k (by omega)).trans ((o_119 k (by omega)).trans ((o_112 k (by omega)).trans ((o_108 k (by omega)).trans ((o_87 k (by omega)).trans ((o_61 k (by omega)).trans ((o_44 k (by omega)).trans ((o_26 k (by omega)).trans (o_20 k (by omega))))))))))))
                              exact pw_iret C hr dX10_defun_271 (rCg.of (T0 := (plT T ++ [((obCar (obCdr X)), (obCar (obCdr (obCdr X))), (pl2 (obCar (obCdr (obCdr (obCdr X))))).1)])) (by rw [if_pos (by omega), hK0]; exact hnT) (R0 := (0, none, 0, 0, nk)) ((if_pos (by omega)).trans (by rw [hK0])) ⟨(va_up (va_up (va_up (va_up (va_up (va_up (va_up (va_up (va_up x 37 z_17) 38 (obLen (obCar (obCdr (obCdr X))))) 7 n_36) 10 ((sN_37 : Nat) : Int)) 37 (-1)) 49 v_78) 51 u_79) 32 ((((plT T).length : Nat) : Int) + 1)) 69 1), t_35, n_36, sN_37, Z_38, 1, rfl, ⟨k_332, R_337, K_58, hDx, ⟨G_338, G_339, G_340, G_341, G_342, G_343, G_344⟩, (hO.same ((o_330 1015 (by omega)).trans ((o_326 1015 (by omega)).trans ((hf1 1015 (by omega)).trans ((o_119 1015 (by omega)).trans ((o_112 1015 (by omega)).trans ((o_108 1015 (by omega)).trans ((o_87 1015 (by omega)).trans ((o_61 1015 (by omega)).trans ((o_44 1015 (by omega)).trans ((o_26 1015 (by omega)).trans (o_20 1015 (by omega))))))))))))), rfl, rfl, (by rw [List.length_append]; show (((plT T).length : Nat) : Int) + 1 = (((plT T).length + 1 : Nat) : Int); omega), rfl, h39, h40, h41, h45, h47, rfl, hPn.1⟩, x_41, by omega, by omega, ⟨rfl, rfl, rfl⟩, fun k hk => (o_330 k (by omega)).trans ((o_326 k (by omega)).trans ((hf1 k (by omega)).trans ((o_119 k (by omega)).trans ((o_112 k (by omega)).trans ((o_108 k (by omega)).trans ((o_87 k (by omega)).trans ((o_61 k (by omega)).trans ((o_44 k (by omega)).trans ((o_26 k (by omega)).trans (o_20 k (by omega))))))))))), Or.inr ⟨rfl, by omega⟩⟩)
                            · exfalso; omega
                          | succ kk ih =>
                            intro k w1 dv1 hkk y36 u35 hvs hvo hf1
                            refine pw_iload C dX10_defun_217 rfl ?_
                            refine pw_aload_n (i := 0) C dX10_defun_219 rfl rfl (Or.inr ⟨_, rfl⟩) ?_
                            have c_545 := ((hf1 1000 (by omega)).trans (o_119 1000 (by omega))).trans k_114
                            refine pw_get (j := 34) C cl_X10 fl_X10_77 (by decide) rfl c_545 rfl dX10_defun_220 ?_
                            refine pw_stk (st' := [.ref (B 34), .int (iZ ((k : Nat) : Int))]) rfl ?_
                            refine pw_iload C dX10_defun_223 rfl ?_
                            have c_546 := (hf1 1035 (by omega)).trans k_118
                            refine pw_iald C c_546 ⟨by omega, by omega, by omega⟩ dX10_defun_225 ?_
                            rw [upz_self]
                            refine pw_stk (st' := [.int (iZ (obLen (obCar (obCdr (obCdr X))))), .int (iZ ((k : Nat) : Int))]) rfl ?_
                            refine pw_icmp_ge (tgt := 256) C (by omega) (by omega) dX10_defun_226 (by decide) (fun h_547 => ?_) (fun h_547 => ?_)
                            · exfalso; omega
                            · refine pw_aload_n (i := 0) C dX10_defun_229 rfl rfl (Or.inr ⟨_, rfl⟩) ?_
                              refine pw_get (j := 35) C cl_X10 fl_X10_80 (by decide) rfl c_545 rfl dX10_defun_230 ?_
                              refine pw_stk (st' := [.ref (B 35)]) rfl ?_
                              refine pw_bipush C dX10_defun_233 (by decide) ?_
                              refine pw_iload C dX10_defun_235 rfl ?_
                              refine pw_imul C dX10_defun_237 ?_
                              refine pw_iload C dX10_defun_238 rfl ?_
                              refine pw_iadd C dX10_defun_240 ?_
                              refine pw_aload_n (i := 0) C dX10_defun_241 rfl rfl (Or.inr ⟨_, rfl⟩) ?_
                              refine pw_iload C dX10_defun_242 rfl ?_
                              refine pw_iload C dX10_defun_244 rfl ?_
                              have R_548 := R_115.same (w' := w1) (fun k hk => (hf1 k (by omega)).trans (o_119 k (by omega)))
                              refine pw_callV (As := [.int (iZ z_18), .int (iZ ((k : Nat) : Int))]) (st := [.int (iZ ((6 * (((plT T).length : Nat) : Int)) + ((k : Nat) : Int))), .ref (B 35)]) C (m_X10_nth g l c_545 R_548 rfl rfl K_58 v_56 (i := k) (by omega) (fun q hq => (lsO_cdN q (obCar (obCdr (obCdr X))) (by omega)).1)) my_X10_nth ml_X10_292 (pw_rec.of C c_545 cl_X10.1) rfl ⟨Nat.le_of_ble_eq_true rfl, Nat.le_of_ble_eq_true rfl⟩ ⟨by (try dsimp only); omega, by (try dsimp only); omega⟩ rfl (Nat.le_of_ble_eq_true rfl) dX10_defun_246 ?_
                              rintro _ _ ⟨rfl, z_549, rfl, z_549q⟩
                              have z_549v : Vl t_35 n_36 z_549 (obCar (cdN k (obCar (obCdr (obCdr X))))) := z_549q
                              have z_549r := Vl.rg R_548 z_549v
                              refine pw_stk (st' := [.int (iZ z_549), .int (iZ ((6 * (((plT T).length : Nat) : Int)) + ((k : Nat) : Int))), .ref (B 35)]) rfl ?_
                              refine pw_iast C y36 ⟨by omega, by omega, by omega⟩ dX10_defun_249 (fun w_552 k_550 o_551 => ?_)
                              refine pw_iinc (lv' := [(0, .ref b), (1, .int (iZ o)), (2, .int (iZ 0)), (3, .int (iZ z_17)), (4, .int (iZ z_18)), (5, .int (iZ z_34)), (6, .int (iZ (((plT T).length : Nat) : Int))), (7, .int (iZ (((k : Nat) : Int) + 1)))]) C dX10_defun_250 rfl (by decide) rfl ?_
                              refine pw_goto (tgt := 217) C dX10_defun_253 (by decide) ?_
                              rw [show ((k : Nat) : Int) + 1 = ((k + 1 : Nat) : Int) by omega]
                              have hY := (lsO_cdN k (obCar (obCdr (obCdr X))) (by omega)).2
                              have hva := VlsI.add (z := z_549) (v := obCar (cdN k (obCar (obCdr (obCdr X))))) z_549v hvs
                              rw [List.length_take_of_le (by omega)] at hva
                              exact ih (k + 1) w_552 _ (by omega) k_550 (upz_inI u35 (by omega)) (by rw [List.take_add_one, hY]; exact hva) (fun j hj => by rw [upz_ne _ _ (by omega)]; exact hvo j hj) (fun q hq => (o_551 q (by omega)).trans (hf1 q (by omega)))
                        exact loop (lsO (obCar (obCdr (obCdr X)))).length 0 w_120 dv (by omega) hdvo u3 trivial (fun _ _ => rfl) (fun _ _ => rfl)
                    · refine pw_bipush C dX10_defun_170 (by decide) ?_
                      have hK0 : (defC T (obCar (obCdr X)) (obCar (obCdr (obCdr X))) (obCar (obCdr (obCdr (obCdr X))))) = (8, T) := by unfold defC; rw [if_pos hdef, hdn]; exact if_pos (by have := plT_len T; omega)
                      have G_553 := G_59.same (w' := w_88) (fun k hk => (o_87 k (by omega)).trans (o_61 k (by omega)))
                      have G_554 := hEv.same (w' := w_88) (fun k hk => (o_87 k (by omega)).trans ((o_61 k (by omega)).trans ((o_44 k (by omega)).trans ((o_26 k (by omega)).trans (o_20 k (by omega))))))
                      have G_555 := hTp.same (w' := w_88) (fun k hk => (o_87 k (by omega)).trans ((o_61 k (by omega)).trans ((o_44 k (by omega)).trans ((o_26 k (by omega)).trans (o_20 k (by omega))))))
                      have G_556 := hTl.same (w' := w_88) (fun k hk => (o_87 k (by omega)).trans ((o_61 k (by omega)).trans ((o_44 k (by omega)).trans ((o_26 k (by omega)).trans (o_20 k (by omega))))))
                      have G_557 := hMp.same (w' := w_88) (fun k hk => (o_87 k (by omega)).trans ((o_61 k (by omega)).trans ((o_44 k (by omega)).trans ((o_26 k (by omega)).trans (o_20 k (by omega))))))
                      exact pw_iret C hr dX10_defun_172 (rCg.of (T0 := plT T) (by rw [if_pos (by omega), hK0]) (R0 := (8, none, 0, 0, nk)) ((if_pos (by omega)).trans (by rw [hK0])) ⟨(va_up (va_up (va_up (va_up (va_up (va_up (va_up x 37 z_17) 38 (obLen (obCar (obCdr (obCdr X))))) 7 n_36) 10 ((sN_37 : Nat) : Int)) 37 (-1)) 49 v_78) 51 u_79), t_35, n_36, sN_37, Z_38, 0, rfl, ⟨e_82, R_92, K_58, D_93, ⟨G_553, G_89, G_90, G_554, G_555, G_556, G_557⟩, (hO.same ((o_87 1015 (by omega)).trans ((o_61 1015 (by omega)).trans ((o_44 1015 (by omega)).trans ((o_26 1015 (by omega)).trans (o_20 1015 (by omega))))))), rfl, rfl, h32, rfl, h39, h40, h41, h45, h47, h69, hPn.1⟩, x_41, by omega, by omega, ⟨rfl, rfl, rfl⟩, fun k hk => (o_87 k (by omega)).trans ((o_61 k (by omega)).trans ((o_44 k (by omega)).trans ((o_26 k (by omega)).trans (o_20 k (by omega))))), Or.inl ⟨rfl, fun k hk => (o_87 k (by omega)).trans ((o_61 k (by omega)).trans ((o_44 k (by omega)).trans ((o_26 k (by omega)).trans (o_20 k (by omega))))), [], (List.append_nil _).symm⟩⟩)
                · exfalso; omega
            · exfalso; omega
          · refine pw_iconst C dX10_defun_103 ?_
            have hK0 : (defC T (obCar (obCdr X)) (obCar (obCdr (obCdr X))) (obCar (obCdr (obCdr (obCdr X))))) = (2, T) := by exact (defC_no (by unfold isDef; rw [isTm_ref _ _ _ (by rw [← isTm_plT, plT_own]; exact hyes), h_91, Bool.and_false])).1
            have R_558 := R_74.same (w' := w_88) (fun k hk => (o_87 k (by omega)))
            have D_559 := D_32.same (w' := w_88) (fun k hk => (o_87 k (by omega)).trans ((o_61 k (by omega)).trans (o_44 k (by omega)))) x_41
            have G_560 := G_59.same (w' := w_88) (fun k hk => (o_87 k (by omega)).trans (o_61 k (by omega)))
            have G_561 := hEv.same (w' := w_88) (fun k hk => (o_87 k (by omega)).trans ((o_61 k (by omega)).trans ((o_44 k (by omega)).trans ((o_26 k (by omega)).trans (o_20 k (by omega))))))
            have G_562 := hTp.same (w' := w_88) (fun k hk => (o_87 k (by omega)).trans ((o_61 k (by omega)).trans ((o_44 k (by omega)).trans ((o_26 k (by omega)).trans (o_20 k (by omega))))))
            have G_563 := hTl.same (w' := w_88) (fun k hk => (o_87 k (by omega)).trans ((o_61 k (by omega)).trans ((o_44 k (by omega)).trans ((o_26 k (by omega)).trans (o_20 k (by omega))))))
            have G_564 := hMp.same (w' := w_88) (fun k hk => (o_87 k (by omega)).trans ((o_61 k (by omega)).trans ((o_44 k (by omega)).trans ((o_26 k (by omega)).trans (o_20 k (by omega))))))
            exact pw_iret C hr dX10_defun_104 (rCg.of (T0 := plT T) (by rw [if_pos (by omega), hK0]) (R0 := (2, none, 0, 0, nk)) ((if_pos (by omega)).trans (by rw [hK0])) ⟨(va_up (va_up (va_up (va_up (va_up (va_up (va_up x 37 z_17) 38 (obLen (obCar (obCdr (obCdr X))))) 7 n_36) 10 ((sN_37 : Nat) : Int)) 37 (-1)) 49 v_78) 51 u_79), t_35, n_36, sN_37, Z_38, 0, rfl, ⟨e_82, R_558, K_58, D_559, ⟨G_560, G_89, G_90, G_561, G_562, G_563, G_564⟩, (hO.same ((o_87 1015 (by omega)).trans ((o_61 1015 (by omega)).trans ((o_44 1015 (by omega)).trans ((o_26 1015 (by omega)).trans (o_20 1015 (by omega))))))), rfl, rfl, h32, rfl, h39, h40, h41, h45, h47, h69, hPn.1⟩, x_41, by omega, by omega, ⟨rfl, rfl, rfl⟩, fun k hk => (o_87 k (by omega)).trans ((o_61 k (by omega)).trans ((o_44 k (by omega)).trans ((o_26 k (by omega)).trans (o_20 k (by omega))))), Or.inl ⟨rfl, fun k hk => (o_87 k (by omega)).trans ((o_61 k (by omega)).trans ((o_44 k (by omega)).trans ((o_26 k (by omega)).trans (o_20 k (by omega))))), [], (List.append_nil _).symm⟩⟩)
      · refine pw_iconst C dX10_defun_37 ?_
        have hK0 : (defC T (obCar (obCdr X)) (obCar (obCdr (obCdr X))) (obCar (obCdr (obCdr (obCdr X))))) = (2, T) := by exact (defC_no (by unfold isDef; rw [h_16, Bool.and_false]; rfl)).1
        exact pw_iret C hr dX10_defun_38 (rCg.of (T0 := plT T) (by rw [if_pos (by omega), hK0]) (R0 := (2, none, 0, 0, nk)) ((if_pos (by omega)).trans (by rw [hK0])) ⟨x, t, n, sN, fZ, 0, rfl, ⟨h0, hR, hK, hD, ⟨hBt, hWk, hIt, hEv, hTp, hTl, hMp⟩, hO, h7, h10, h32, h37, h39, h40, h41, h45, h47, h69, h38⟩, Ext.rf, by omega, by omega, ⟨rfl, rfl, rfl⟩, fun k hk => rfl, Or.inl ⟨rfl, fun k hk => rfl, [], (List.append_nil _).symm⟩⟩)

set_option maxRecDepth 100000 in
set_option maxHeartbeats 4000000 in
/-- redo -/
theorem m_X10_redo (g : pw_P) (l : Launch) {w : pw_W} {b : Nat} {B : Nat → Nat} {x : Nat → Int} {t : Int → Ob} {n : Int} {sN : Nat} {fZ : Int → Int} {T : List Dn} {fu : Nat} (hC : CmW g w b B x t n sN fZ (plT T) [] fu 0 0 0) {o : Int} {X : Ob} (ho : Vl t n o X) (hfu : fu ≤ 1000) (hTo0 : TOk T) (hTn0 : TNs T) (hnd : (nd2 X).1 ≤ 1000) {nk : Nat} (hcap : n + 3020 ≤ 40000) : pw_M g l yX10_defun cX10_defun 8 (some .int) { frames := 7, cells := 0, slots := 0, locals := 159 } [.ref b, .int (iZ o), .int (iZ 1)] w (fun r w' => rCg g w w' b B x t n sN fu (plT T) (plT (if obLen X = 4 then (redoC T (obCar (obCdr X)) (obCar (obCdr (obCdr X))) (obCar (obCdr (obCdr (obCdr X))))).2 else T)) (if obLen X = 4 then ((redoC T (obCar (obCdr X)) (obCar (obCdr (obCdr X))) (obCar (obCdr (obCdr (obCdr X))))).1, none, 0, 0, nk) else (2, none, 0, 0, nk)) (nd2 X).1 3010 r) := by
  refine pw_M.of (by decide) (Nat.le_of_ble_eq_true rfl) rfl ?_
  intro p e s m args below meth c C hr hn
  obtain ⟨h0, hR, hK, hD, ⟨hBt, hWk, hIt, hEv, hTp, hTl, hMp⟩, hO, h7, h10, h32, h37, h39, h40, h41, h45, h47, h69, h38⟩ := id hC
  have hRn := hR.n
  have hor := Vl.rg hR ho
  have hTo := hTo0.pl
  have hTn := hTn0.pl
  have hDl : ∀ d ∈ plT T, 0 ≤ obLen d.2.1 := fun d hd => (hTo d hd).2.1
  have hT6 : ∀ d ∈ plT T, obLen d.2.1 ≤ 6 := fun d hd => (hTo d hd).2.2.1
  obtain ⟨fn, fm, dv, fb, d1, d2, d3, d4, ⟨u1, u2, u3, u4⟩, hDf, hT40⟩ := id hD
  refine pw_aload_n (i := 0) C dX10_defun_0 rfl rfl (Or.inr ⟨_, rfl⟩) ?_
  refine pw_iload_n (i := 1) C dX10_defun_1 rfl rfl ?_
  refine pw_callV (As := [.int (iZ o)]) (st := []) C (m_X10_lengthOf g l h0 hR h7 h10 hK ho) my_X10_lengthOf ml_X10_325 (pw_rec.of C h0 cl_X10.1) rfl ⟨Nat.le_of_ble_eq_true rfl, Nat.le_of_ble_eq_true rfl⟩ ⟨by (try dsimp only); omega, by (try dsimp only); omega⟩ rfl (Nat.le_of_ble_eq_true rfl) dX10_defun_2 ?_
  rintro _ _ ⟨rfl, rfl⟩
  refine pw_stk (st' := [.int (iZ (obLen X))]) rfl ?_
  have g_11 := obLen_rg hR ho
  refine pw_iconst C dX10_defun_5 ?_
  refine pw_icmp_ne (tgt := 37) C (by omega) (by omega) dX10_defun_6 (by decide) (fun h_12 => ?_) (fun h_12 => ?_)
  · refine pw_iconst C dX10_defun_37 ?_
    exact pw_iret C hr dX10_defun_38 (rCg.of (T0 := plT T) (by rw [if_neg (by omega)]) (R0 := (2, none, 0, 0, nk)) (if_neg (by omega)) ⟨x, t, n, sN, fZ, 0, rfl, ⟨h0, hR, hK, hD, ⟨hBt, hWk, hIt, hEv, hTp, hTl, hMp⟩, hO, h7, h10, h32, h37, h39, h40, h41, h45, h47, h69, h38⟩, Ext.rf, by omega, by omega, ⟨rfl, rfl, rfl⟩, fun k hk => rfl, Or.inl ⟨rfl, fun k hk => rfl, [], (List.append_nil _).symm⟩⟩)
  · refine pw_aload_n (i := 0) C dX10_defun_9 rfl rfl (Or.inr ⟨_, rfl⟩) ?_
    refine pw_aload_n (i := 0) C dX10_defun_10 rfl rfl (Or.inr ⟨_, rfl⟩) ?_
    refine pw_iload_n (i := 1) C dX10_defun_11 rfl rfl ?_
    refine pw_iconst C dX10_defun_12 ?_
    refine pw_callV (As := [.int (iZ o), .int (iZ 1)]) (st := [.ref b]) C (m_X10_nth g l h0 hR h7 h10 hK ho (i := 1) (by omega) (fun q hq => ln_p (k := 4) (by omega) q (by omega))) my_X10_nth ml_X10_292 (pw_rec.of C h0 cl_X10.1) rfl ⟨Nat.le_of_ble_eq_true rfl, Nat.le_of_ble_eq_true rfl⟩ ⟨by (try dsimp only); omega, by (try dsimp only); omega⟩ rfl (Nat.le_of_ble_eq_true rfl) dX10_defun_13 ?_
    rintro _ _ ⟨rfl, z_13, rfl, z_13q⟩
    have z_13v : Vl t n z_13 (obCar (obCdr X)) := z_13q
    have z_13r := Vl.rg hR z_13v
    refine pw_stk (st' := [.int (iZ z_13), .ref b]) rfl ?_
    refine pw_callV (As := [.int (iZ z_13)]) (st := []) C (m_X10_isNewName g l h0 hR h7 h10 hK z_13v) my_X10_isNewName ml_X10_442 (pw_rec.of C h0 cl_X10.1) rfl ⟨Nat.le_of_ble_eq_true rfl, Nat.le_of_ble_eq_true rfl⟩ ⟨by (try dsimp only); omega, by (try dsimp only); omega⟩ rfl (Nat.le_of_ble_eq_true rfl) dX10_defun_16 ?_
    rintro _ _ ⟨rfl, rfl⟩
    refine pw_stk (st' := [.int (iZ (b2i (isFN (obCar (obCdr X)))))]) rfl ?_
    refine pw_if_eqB (tgt := 37) C dX10_defun_19 (by decide) (fun h_14 => ?_) (fun h_14 => ?_)
    · refine pw_iconst C dX10_defun_37 ?_
      have hK0 : (redoC T (obCar (obCdr X)) (obCar (obCdr (obCdr X))) (obCar (obCdr (obCdr (obCdr X))))) = (2, T) := by exact (defC_no (by unfold isDef; rw [h_14]; rfl)).2
      exact pw_iret C hr dX10_defun_38 (rCg.of (T0 := plT T) (by rw [if_pos (by omega), hK0]) (R0 := (2, none, 0, 0, nk)) ((if_pos (by omega)).trans (by rw [hK0])) ⟨x, t, n, sN, fZ, 0, rfl, ⟨h0, hR, hK, hD, ⟨hBt, hWk, hIt, hEv, hTp, hTl, hMp⟩, hO, h7, h10, h32, h37, h39, h40, h41, h45, h47, h69, h38⟩, Ext.rf, by omega, by omega, ⟨rfl, rfl, rfl⟩, fun k hk => rfl, Or.inl ⟨rfl, fun k hk => rfl, [], (List.append_nil _).symm⟩⟩)
    · have hfn := h_14
      refine pw_aload_n (i := 0) C dX10_defun_22 rfl rfl (Or.inr ⟨_, rfl⟩) ?_
      refine pw_aload_n (i := 0) C dX10_defun_23 rfl rfl (Or.inr ⟨_, rfl⟩) ?_
      refine pw_iload_n (i := 1) C dX10_defun_24 rfl rfl ?_
      refine pw_iconst C dX10_defun_25 ?_
      refine pw_callV (As := [.int (iZ o), .int (iZ 2)]) (st := [.ref b]) C (m_X10_nth g l h0 hR h7 h10 hK ho (i := 2) (by omega) (fun q hq => ln_p (k := 4) (by omega) q (by omega))) my_X10_nth ml_X10_292 (pw_rec.of C h0 cl_X10.1) rfl ⟨Nat.le_of_ble_eq_true rfl, Nat.le_of_ble_eq_true rfl⟩ ⟨by (try dsimp only); omega, by (try dsimp only); omega⟩ rfl (Nat.le_of_ble_eq_true rfl) dX10_defun_26 ?_
      rintro _ _ ⟨rfl, z_15, rfl, z_15q⟩
      have z_15v : Vl t n z_15 (obCar (obCdr (obCdr X))) := z_15q
      have z_15r := Vl.rg hR z_15v
      refine pw_stk (st' := [.int (iZ z_15), .ref b]) rfl ?_
      refine pw_bipush C dX10_defun_29 (by decide) ?_
      refine pw_callV (As := [.int (iZ z_15), .int (iZ 6)]) (st := []) C (m_X10_areVariables g l h0 hR h7 h10 hK z_15v) my_X10_areVariables ml_X10_448 (pw_rec.of C h0 cl_X10.1) rfl ⟨Nat.le_of_ble_eq_true rfl, Nat.le_of_ble_eq_true rfl⟩ ⟨by (try dsimp only); omega, by (try dsimp only); omega⟩ rfl (Nat.le_of_ble_eq_true rfl) dX10_defun_31 ?_
      rintro _ _ ⟨rfl, rfl⟩
      refine pw_stk (st' := [.int (iZ (b2i (arePs (obCar (obCdr (obCdr X))))))]) rfl ?_
      refine pw_if_neB (tgt := 39) C dX10_defun_34 (by decide) (fun h_16 => ?_) (fun h_16 => ?_)
      · have hps := h_16
        have hPn := arePs_len hps
        have hfnn := fn_ne hfn
        have hT1n : TNs (((obCar (obCdr X)), (obCar (obCdr (obCdr X))), oNil) :: plT T) := fun d hd => by
          rcases List.mem_cons.mp hd with e | e
          · rw [e]; exact ⟨hfnn.2.2.1, hfnn.2.2.2⟩
          · exact hTn d e
        have hT1r : ∀ d ∈ (((obCar (obCdr X)), (obCar (obCdr (obCdr X))), oNil) :: plT T), obLen d.2.1 ≤ 6 := fun d hd => by
          rcases List.mem_cons.mp hd with e | e
          · rw [e]; exact hPn.2
          · exact hT6 d e
        have hndz : (nd2 (obCar (obCdr (obCdr (obCdr X))))).1 ≤ 1000 := Nat.le_trans (nd2_at (Nat.le_refl _) 2 (fun i hi => ln_p (k := 4) (by omega) (i + 1) (by omega))).1 hnd
        have hndx : (nd2 (obCar (obCdr (obCdr (obCdr X))))).1 ≤ (nd2 X).1 := (nd2_at (Nat.le_refl _) 2 (fun i hi => ln_p (k := 4) (by omega) (i + 1) (by omega))).1
        have hPl := lsO_len (R0 := (obCar (obCdr (obCdr X)))) hPn.1
        refine pw_aload_n (i := 0) C dX10_defun_39 rfl rfl (Or.inr ⟨_, rfl⟩) ?_
        refine pw_iload_n (i := 1) C dX10_defun_40 rfl rfl ?_
        refine pw_iconst C dX10_defun_41 ?_
        refine pw_callV (As := [.int (iZ o), .int (iZ 1)]) (st := []) C (m_X10_nth g l h0 hR h7 h10 hK ho (i := 1) (by omega) (fun q hq => ln_p (k := 4) (by omega) q (by omega))) my_X10_nth ml_X10_292 (pw_rec.of C h0 cl_X10.1) rfl ⟨Nat.le_of_ble_eq_true rfl, Nat.le_of_ble_eq_true rfl⟩ ⟨by (try dsimp only); omega, by (try dsimp only); omega⟩ rfl (Nat.le_of_ble_eq_true rfl) dX10_defun_42 ?_
        rintro _ _ ⟨rfl, z_17, rfl, z_17q⟩
        have z_17v : Vl t n z_17 (obCar (obCdr X)) := z_17q
        have z_17r := Vl.rg hR z_17v
        refine pw_stk (st' := [.int (iZ z_17)]) rfl ?_
        refine pw_istore_n (i := 3) (lv' := [(0, .ref b), (1, .int (iZ o)), (2, .int (iZ 1)), (3, .int (iZ z_17))]) C dX10_defun_45 rfl (by decide) rfl ?_
        refine pw_aload_n (i := 0) C dX10_defun_46 rfl rfl (Or.inr ⟨_, rfl⟩) ?_
        refine pw_iload_n (i := 1) C dX10_defun_47 rfl rfl ?_
        refine pw_iconst C dX10_defun_48 ?_
        refine pw_callV (As := [.int (iZ o), .int (iZ 2)]) (st := []) C (m_X10_nth g l h0 hR h7 h10 hK ho (i := 2) (by omega) (fun q hq => ln_p (k := 4) (by omega) q (by omega))) my_X10_nth ml_X10_292 (pw_rec.of C h0 cl_X10.1) rfl ⟨Nat.le_of_ble_eq_true rfl, Nat.le_of_ble_eq_true rfl⟩ ⟨by (try dsimp only); omega, by (try dsimp only); omega⟩ rfl (Nat.le_of_ble_eq_true rfl) dX10_defun_49 ?_
        rintro _ _ ⟨rfl, z_18, rfl, z_18q⟩
        have z_18v : Vl t n z_18 (obCar (obCdr (obCdr X))) := z_18q
        have z_18r := Vl.rg hR z_18v
        refine pw_stk (st' := [.int (iZ z_18)]) rfl ?_
        refine pw_istore (lv' := [(0, .ref b), (1, .int (iZ o)), (2, .int (iZ 1)), (3, .int (iZ z_17)), (4, .int (iZ z_18))]) C dX10_defun_52 (by decide) rfl ?_
        refine pw_aload_n (i := 0) C dX10_defun_54 rfl rfl (Or.inr ⟨_, rfl⟩) ?_
        refine pw_iload_n (i := 3) C dX10_defun_55 rfl rfl ?_
        refine pw_put (j := 37) C cl_X10 fl_X10_86 (by decide) rfl rfl rfl rfl rfl h0 (Nat.le_of_ble_eq_true rfl) dX10_defun_56 (fun w_21 k_19 o_20 => ?_)
        have k_22 : w_21 1000 = (b, some (mdE B (va_up x 37 z_17))) := k_19
        refine pw_aload_n (i := 0) C dX10_defun_59 rfl rfl (Or.inr ⟨_, rfl⟩) ?_
        refine pw_aload_n (i := 0) C dX10_defun_60 rfl rfl (Or.inr ⟨_, rfl⟩) ?_
        refine pw_iload C dX10_defun_61 rfl ?_
        have R_23 := hR.same (w' := w_21) (fun k hk => (o_20 k (by omega)))
        refine pw_callV (As := [.int (iZ z_18)]) (st := [.ref b]) C (m_X10_lengthOf g l k_22 R_23 h7 h10 hK z_18v) my_X10_lengthOf ml_X10_325 (pw_rec.of C k_22 cl_X10.1) rfl ⟨Nat.le_of_ble_eq_true rfl, Nat.le_of_ble_eq_true rfl⟩ ⟨by (try dsimp only); omega, by (try dsimp only); omega⟩ rfl (Nat.le_of_ble_eq_true rfl) dX10_defun_63 ?_
        rintro _ _ ⟨rfl, rfl⟩
        refine pw_stk (st' := [.int (iZ (obLen (obCar (obCdr (obCdr X))))), .ref b]) rfl ?_
        have g_24 := obLen_rg R_23 z_18v
        refine pw_put (j := 38) C cl_X10 fl_X10_298 (by decide) rfl rfl rfl rfl rfl k_22 (Nat.le_of_ble_eq_true rfl) dX10_defun_66 (fun w_27 k_25 o_26 => ?_)
        have k_28 : w_27 1000 = (b, some (mdE B (va_up (va_up x 37 z_17) 38 (obLen (obCar (obCdr (obCdr X))))))) := k_25
        refine pw_aload_n (i := 0) C dX10_defun_69 rfl rfl (Or.inr ⟨_, rfl⟩) ?_
        refine pw_aload_n (i := 0) C dX10_defun_70 rfl rfl (Or.inr ⟨_, rfl⟩) ?_
        refine pw_iload_n (i := 1) C dX10_defun_71 rfl rfl ?_
        refine pw_iconst C dX10_defun_72 ?_
        have R_29 := R_23.same (w' := w_27) (fun k hk => (o_26 k (by omega)))
        refine pw_callV (As := [.int (iZ o), .int (iZ 3)]) (st := [.ref b]) C (m_X10_nth g l k_28 R_29 h7 h10 hK ho (i := 3) (by omega) (fun q hq => ln_p (k := 4) (by omega) q (by omega))) my_X10_nth ml_X10_292 (pw_rec.of C k_28 cl_X10.1) rfl ⟨Nat.le_of_ble_eq_true rfl, Nat.le_of_ble_eq_true rfl⟩ ⟨by (try dsimp only); omega, by (try dsimp only); omega⟩ rfl (Nat.le_of_ble_eq_true rfl) dX10_defun_73 ?_
        rintro _ _ ⟨rfl, z_30, rfl, z_30q⟩
        have z_30v : Vl t n z_30 (obCar (obCdr (obCdr (obCdr X)))) := z_30q
        have z_30r := Vl.rg R_29 z_30v
        refine pw_stk (st' := [.int (iZ z_30), .ref b]) rfl ?_
        have G_31 := hBt.same (w' := w_27) (fun k hk => (o_26 k (by omega)).trans (o_20 k (by omega)))
        have D_32 := hD.same (w' := w_27) (fun k hk => (o_26 k (by omega)).trans (o_20 k (by omega))) Ext.rf
        obtain ⟨q_33a, q_33b, q_33c, q_33d, q_33h⟩ := G_31
        refine pw_callV (As := [.int (iZ z_30)]) (st := []) C (m_X10_termOf g l k_28 R_29 h7 h10 hK D_32 h32 z_30v hTn hDl (cm := z_17) (cn := obLen (obCar (obCdr (obCdr X)))) (Or.inr ⟨(obCar (obCdr X)), (obCar (obCdr (obCdr X))), z_17v, hfnn.2.2.1, rfl, rfl⟩) hT1n hT1r hPn.1 rfl ⟨by omega, by omega⟩ rfl h45 h47 q_33h hndz (by have := hndz; omega)) my_X10_termOf ml_X10_430 (pw_rec.of C k_28 cl_X10.1) rfl ⟨Nat.le_of_ble_eq_true rfl, Nat.le_of_ble_eq_true rfl⟩ ⟨by (try dsimp only); omega, by (try dsimp only); omega⟩ rfl (Nat.le_of_ble_eq_true rfl) dX10_defun_76 ?_
        rintro _ w_45 ⟨z_34, t_35, n_36, sN_37, Z_38, f_48, f_49, f_50, f_51, rfl, e_39, R_40, x_41, hn_42, hs_43, hv_47, A_46, o_44⟩
        have x_411 := x_41.1
        have R_40n := R_40.n
        have z_34d := hndz
        have v_52 := Vl.ext ho x_41
        have v_53 := Vl.ext z_13v x_41
        have v_54 := Vl.ext z_15v x_41
        have v_55 := Vl.ext z_17v x_41
        have v_56 := Vl.ext z_18v x_41
        have v_57 := Vl.ext z_30v x_41
        have K_58 := RK.ext hK x_41
        have G_59 : gBt g w_45 B := ⟨f_48, f_49, f_50, f_51, A_46⟩
        have z_34r : -1 ≤ z_34 ∧ z_34 < 40000 := by
          split at hv_47
          · have := Vl.rg R_40 hv_47; omega
          · omega
        refine pw_stk (st' := [.int (iZ z_34)]) rfl ?_
        refine pw_istore (lv' := [(0, .ref b), (1, .int (iZ o)), (2, .int (iZ 1)), (3, .int (iZ z_17)), (4, .int (iZ z_18)), (5, .int (iZ z_34))]) C dX10_defun_79 (by decide) rfl ?_
        refine pw_aload_n (i := 0) C dX10_defun_81 rfl rfl (Or.inr ⟨_, rfl⟩) ?_
        refine pw_iconst C dX10_defun_82 ?_
        refine pw_put (j := 37) C cl_X10 fl_X10_86 (by decide) rfl rfl rfl rfl rfl e_39 (Nat.le_of_ble_eq_true rfl) dX10_defun_83 (fun w_62 k_60 o_61 => ?_)
        have k_63 : w_62 1000 = (b, some (mdE B (va_up (va_up (va_up (va_up (va_up x 37 z_17) 38 (obLen (obCar (obCdr (obCdr X))))) 7 n_36) 10 ((sN_37 : Nat) : Int)) 37 (-1)))) := k_60
        refine pw_iload C dX10_defun_86 rfl ?_
        refine pw_iconst C dX10_defun_88 ?_
        refine pw_icmp_eq (tgt := 103) C (by omega) (by omega) dX10_defun_89 (by decide) (fun h_64 => ?_) (fun h_64 => ?_)
        · have hno : isTm (((obCar (obCdr X)), (obCar (obCdr (obCdr X))), oNil) :: plT T) va1 (obCar (obCdr (obCdr (obCdr X)))) = false := by
            cases hb : isTm (((obCar (obCdr X)), (obCar (obCdr (obCdr X))), oNil) :: plT T) va1 (obCar (obCdr (obCdr (obCdr X)))) with
            | false => rfl
            | true => rw [hb, if_pos rfl] at hv_47; have := Vl.rg R_40 hv_47; omega
          refine pw_iconst C dX10_defun_103 ?_
          have hK0 : (redoC T (obCar (obCdr X)) (obCar (obCdr (obCdr X))) (obCar (obCdr (obCdr (obCdr X))))) = (2, T) := by exact (defC_no (by unfold isDef; rw [isTm_two, ← isTm_plT _ va1, plT_own, hno, Bool.false_and, Bool.and_false])).2
          have R_65 := R_40.same (w' := w_62) (fun k hk => (o_61 k (by omega)))
          have D_66 := D_32.same (w' := w_62) (fun k hk => (o_61 k (by omega)).trans (o_44 k (by omega))) x_41
          have G_67 := G_59.same (w' := w_62) (fun k hk => (o_61 k (by omega)))
          have G_68 := hWk.same (w' := w_62) (fun k hk => (o_61 k (by omega)).trans ((o_44 k (by omega)).trans ((o_26 k (by omega)).trans (o_20 k (by omega)))))
          have G_69 := hIt.same (w' := w_62) (fun k hk => (o_61 k (by omega)).trans ((o_44 k (by omega)).trans ((o_26 k (by omega)).trans (o_20 k (by omega)))))
          have G_70 := hEv.same (w' := w_62) (fun k hk => (o_61 k (by omega)).trans ((o_44 k (by omega)).trans ((o_26 k (by omega)).trans (o_20 k (by omega)))))
          have G_71 := hTp.same (w' := w_62) (fun k hk => (o_61 k (by omega)).trans ((o_44 k (by omega)).trans ((o_26 k (by omega)).trans (o_20 k (by omega)))))
          have G_72 := hTl.same (w' := w_62) (fun k hk => (o_61 k (by omega)).trans ((o_44 k (by omega)).trans ((o_26 k (by omega)).trans (o_20 k (by omega)))))
          have G_73 := hMp.same (w' := w_62) (fun k hk => (o_61 k (by omega)).trans ((o_44 k (by omega)).trans ((o_26 k (by omega)).trans (o_20 k (by omega)))))
          exact pw_iret C hr dX10_defun_104 (rCg.of (T0 := plT T) (by rw [if_pos (by omega), hK0]) (R0 := (2, none, 0, 0, nk)) ((if_pos (by omega)).trans (by rw [hK0])) ⟨(va_up (va_up (va_up (va_up (va_up x 37 z_17) 38 (obLen (obCar (obCdr (obCdr X))))) 7 n_36) 10 ((sN_37 : Nat) : Int)) 37 (-1)), t_35, n_36, sN_37, Z_38, 0, rfl, ⟨k_63, R_65, K_58, D_66, ⟨G_67, G_68, G_69, G_70, G_71, G_72, G_73⟩, (hO.same ((o_61 1015 (by omega)).trans ((o_44 1015 (by omega)).trans ((o_26 1015 (by omega)).trans (o_20 1015 (by omega)))))), rfl, rfl, h32, rfl, h39, h40, h41, h45, h47, h69, hPn.1⟩, x_41, by omega, by omega, ⟨rfl, rfl, rfl⟩, fun k hk => (o_61 k (by omega)).trans ((o_44 k (by omega)).trans ((o_26 k (by omega)).trans (o_20 k (by omega)))), Or.inl ⟨rfl, fun k hk => (o_61 k (by omega)).trans ((o_44 k (by omega)).trans ((o_26 k (by omega)).trans (o_20 k (by omega)))), [], (List.append_nil _).symm⟩⟩)
        · have hyes : isTm (((obCar (obCdr X)), (obCar (obCdr (obCdr X))), oNil) :: plT T) va1 (obCar (obCdr (obCdr (obCdr X)))) = true := by
            cases hb : isTm (((obCar (obCdr X)), (obCar (obCdr (obCdr X))), oNil) :: plT T) va1 (obCar (obCdr (obCdr (obCdr X)))) with
            | true => rfl
            | false => rw [hb] at hv_47; have : z_34 = -1 := hv_47; omega
          rw [hyes, if_pos rfl] at hv_47
          have z_34r := Vl.rg R_40 hv_47
          have hyesp := isTm_pl hyes
          refine pw_aload_n (i := 0) C dX10_defun_92 rfl rfl (Or.inr ⟨_, rfl⟩) ?_
          refine pw_iload C dX10_defun_93 rfl ?_
          refine pw_iload C dX10_defun_95 rfl ?_
          have R_74 := R_40.same (w' := w_62) (fun k hk => (o_61 k (by omega)))
          have G_75 := hWk.same (w' := w_62) (fun k hk => (o_61 k (by omega)).trans ((o_44 k (by omega)).trans ((o_26 k (by omega)).trans (o_20 k (by omega)))))
          have G_76 := hIt.same (w' := w_62) (fun k hk => (o_61 k (by omega)).trans ((o_44 k (by omega)).trans ((o_26 k (by omega)).trans (o_20 k (by omega)))))
          obtain ⟨q_77a, q_771, q_772⟩ := G_75
          obtain ⟨q_77b, q_773, q_774⟩ := G_76
          refine pw_callV (As := [.int (iZ z_34), .int (iZ z_18)]) (st := []) C (m_X10_hasOnly g l k_63 R_74 rfl rfl K_58 hv_47 (P := (obCar (obCdr (obCdr X)))) v_56 hPn.1 q_771 q_772 q_773 q_774 hyesp.1 hyesp.2) my_X10_hasOnly ml_X10_433 (pw_rec.of C k_63 cl_X10.1) rfl ⟨Nat.le_of_ble_eq_true rfl, Nat.le_of_ble_eq_true rfl⟩ ⟨by (try dsimp only); omega, by (try dsimp only); omega⟩ rfl (Nat.le_of_ble_eq_true rfl) dX10_defun_97 ?_
          rintro _ w_88 ⟨rfl, ⟨v_78, u_79, fw_80, fi_81, e_82, e_83, g_84, e_85, g_86⟩, o_87⟩
          have G_89 : gWk g w_88 B := ⟨fw_80, e_83, g_84⟩
          have G_90 : gIt g w_88 B := ⟨fi_81, e_85, g_86⟩
          refine pw_stk (st' := [.int (iZ (b2i ((vr2 (fun q => obEl q (obCar (obCdr (obCdr X)))) (pl2 (obCar (obCdr (obCdr (obCdr X))))).1).1)))]) rfl ?_
          refine pw_if_neB (tgt := 105) C dX10_defun_100 (by decide) (fun h_91 => ?_) (fun h_91 => ?_)
          · have hdef : isDef T (obCar (obCdr X)) (obCar (obCdr (obCdr X))) (obCar (obCdr (obCdr (obCdr X)))) = true := by unfold isDef; rw [hfn, hps, isTm_ref _ _ _ (by rw [← isTm_plT, plT_own]; exact hyes), h_91]; rfl
            refine pw_aload_n (i := 0) C dX10_defun_105 rfl rfl (Or.inr ⟨_, rfl⟩) ?_
            refine pw_iload_n (i := 3) C dX10_defun_106 rfl rfl ?_
            have R_92 := R_74.same (w' := w_88) (fun k hk => (o_87 k (by omega)))
            have D_93 := D_32.same (w' := w_88) (fun k hk => (o_87 k (by omega)).trans ((o_61 k (by omega)).trans (o_44 k (by omega)))) x_41
            refine pw_callV (As := [.int (iZ z_17)]) (st := []) C (m_X10_definition g l e_82 R_92 rfl rfl K_58 D_93 h32 v_55) my_X10_definition ml_X10_445 (pw_rec.of C e_82 cl_X10.1) rfl ⟨Nat.le_of_ble_eq_true rfl, Nat.le_of_ble_eq_true rfl⟩ ⟨by (try dsimp only); omega, by (try dsimp only); omega⟩ rfl (Nat.le_of_ble_eq_true rfl) dX10_defun_107 ?_
            rintro _ _ ⟨rfl, rfl⟩
            have hixr := oIx_in (X := (obCar (obCdr X))) hT40
            refine pw_stk (st' := [.int (iZ (oIx (dIx (plT T) (obCar (obCdr X)) 0) 0))]) rfl ?_
            refine pw_istore (lv' := [(0, .ref b), (1, .int (iZ o)), (2, .int (iZ 1)), (3, .int (iZ z_17)), (4, .int (iZ z_18)), (5, .int (iZ z_34)), (6, .int (iZ (oIx (dIx (plT T) (obCar (obCdr X)) 0) 0)))]) C dX10_defun_110 (by decide) rfl ?_
            refine pw_iload_n (i := 2) C dX10_defun_112 rfl rfl ?_
            refine pw_if_eq (tgt := 140) C (by omega) dX10_defun_113 (by decide) (fun h_94 => ?_) (fun h_94 => ?_)
            · exfalso; omega
            · refine pw_iload C dX10_defun_116 rfl ?_
              refine pw_iconst C dX10_defun_118 ?_
              refine pw_icmp_eq (tgt := 140) C (by omega) (by omega) dX10_defun_119 (by decide) (fun h_95 => ?_) (fun h_95 => ?_)
              · have hdn0 := h_95
                refine pw_iload_n (i := 2) C dX10_defun_140 rfl rfl ?_
                refine pw_iload C dX10_defun_141 rfl ?_
                refine pw_iconst C dX10_defun_143 ?_
                refine pw_icmp_ne (tgt := 151) C (by omega) (by omega) dX10_defun_144 (by decide) (fun h_96 => ?_) (fun h_96 => ?_)
                · exfalso; omega
                · have hdn : dLk T (obCar (obCdr X)) = none := oIx_no (by omega)
                  refine pw_iconst C dX10_defun_147 ?_
                  refine pw_goto (tgt := 152) C dX10_defun_148 (by decide) ?_
                  refine pw_icmp_ne (tgt := 157) C (by omega) (by omega) dX10_defun_152 (by decide) (fun h_97 => ?_) (fun h_97 => ?_)
                  · exfalso; omega
                  · refine pw_iconst C dX10_defun_155 ?_
                    have hK0 : (redoC T (obCar (obCdr X)) (obCar (obCdr (obCdr X))) (obCar (obCdr (obCdr (obCdr X))))) = (3, T) := by unfold redoC; rw [if_pos hdef, hdn]
                    have G_98 := G_59.same (w' := w_88) (fun k hk => (o_87 k (by omega)).trans (o_61 k (by omega)))
                    have G_99 := hEv.same (w' := w_88) (fun k hk => (o_87 k (by omega)).trans ((o_61 k (by omega)).trans ((o_44 k (by omega)).trans ((o_26 k (by omega)).trans (o_20 k (by omega))))))
                    have G_100 := hTp.same (w' := w_88) (fun k hk => (o_87 k (by omega)).trans ((o_61 k (by omega)).trans ((o_44 k (by omega)).trans ((o_26 k (by omega)).trans (o_20 k (by omega))))))
                    have G_101 := hTl.same (w' := w_88) (fun k hk => (o_87 k (by omega)).trans ((o_61 k (by omega)).trans ((o_44 k (by omega)).trans ((o_26 k (by omega)).trans (o_20 k (by omega))))))
                    have G_102 := hMp.same (w' := w_88) (fun k hk => (o_87 k (by omega)).trans ((o_61 k (by omega)).trans ((o_44 k (by omega)).trans ((o_26 k (by omega)).trans (o_20 k (by omega))))))
                    exact pw_iret C hr dX10_defun_156 (rCg.of (T0 := plT T) (by rw [if_pos (by omega), hK0]) (R0 := (3, none, 0, 0, nk)) ((if_pos (by omega)).trans (by rw [hK0])) ⟨(va_up (va_up (va_up (va_up (va_up (va_up (va_up x 37 z_17) 38 (obLen (obCar (obCdr (obCdr X))))) 7 n_36) 10 ((sN_37 : Nat) : Int)) 37 (-1)) 49 v_78) 51 u_79), t_35, n_36, sN_37, Z_38, 0, rfl, ⟨e_82, R_92, K_58, D_93, ⟨G_98, G_89, G_90, G_99, G_100, G_101, G_102⟩, (hO.same ((o_87 1015 (by omega)).trans ((o_61 1015 (by omega)).trans ((o_44 1015 (by omega)).trans ((o_26 1015 (by omega)).trans (o_20 1015 (by omega))))))), rfl, rfl, h32, rfl, h39, h40, h41, h45, h47, h69, hPn.1⟩, x_41, by omega, by omega, ⟨rfl, rfl, rfl⟩, fun k hk => (o_87 k (by omega)).trans ((o_61 k (by omega)).trans ((o_44 k (by omega)).trans ((o_26 k (by omega)).trans (o_20 k (by omega))))), Or.inl ⟨rfl, fun k hk => (o_87 k (by omega)).trans ((o_61 k (by omega)).trans ((o_44 k (by omega)).trans ((o_26 k (by omega)).trans (o_20 k (by omega))))), [], (List.append_nil _).symm⟩⟩)
              · obtain ⟨j, d, hje, hjd, hjg, hd1, hdl, hjl⟩ := oIx_yes (T := T) (X := (obCar (obCdr X))) (by omega)
                rw [hje]
                have hgj := DfM.get hDf hjg
                rw [Nat.zero_add] at hgj
                have hP6 := hT6 _ (List.mem_of_getElem? hjg)
                have hP0 := hDl _ (List.mem_of_getElem? hjg)
                have hPl := lsO_len (R0 := (plD d).2.1) hP0
                have hfm := hgj.2.1
                refine pw_aload_n (i := 0) C dX10_defun_122 rfl rfl (Or.inr ⟨_, rfl⟩) ?_
                refine pw_get (j := 34) C cl_X10 fl_X10_77 (by decide) rfl e_82 rfl dX10_defun_123 ?_
                refine pw_stk (st' := [.ref (B 34)]) rfl ?_
                refine pw_iload C dX10_defun_126 rfl ?_
                have c_103 := ((o_87 1035 (by omega)).trans ((o_61 1035 (by omega)).trans ((o_44 1035 (by omega)).trans ((o_26 1035 (by omega)).trans (o_20 1035 (by omega)))))).trans d2
                have g_104 := u2 ((j : Nat) : Int)
                refine pw_iald C c_103 ⟨by omega, by omega, by omega⟩ dX10_defun_128 ?_
                refine pw_aload_n (i := 0) C dX10_defun_129 rfl rfl (Or.inr ⟨_, rfl⟩) ?_
                refine pw_iload C dX10_defun_130 rfl ?_
                refine pw_callV (As := [.int (iZ z_18)]) (st := [.int (iZ (fm ((j : Nat) : Int)))]) C (m_X10_lengthOf g l e_82 R_92 rfl rfl K_58 v_56) my_X10_lengthOf ml_X10_325 (pw_rec.of C e_82 cl_X10.1) rfl ⟨Nat.le_of_ble_eq_true rfl, Nat.le_of_ble_eq_true rfl⟩ ⟨by (try dsimp only); omega, by (try dsimp only); omega⟩ rfl (Nat.le_of_ble_eq_true rfl) dX10_defun_132 ?_
                rintro _ _ ⟨rfl, rfl⟩
                refine pw_stk (st' := [.int (iZ (obLen (obCar (obCdr (obCdr X))))), .int (iZ (fm ((j : Nat) : Int)))]) rfl ?_
                have g_105 := obLen_rg R_92 v_56
                refine pw_icmp_eq (tgt := 140) C (by omega) (by omega) dX10_defun_135 (by decide) (fun h_106 => ?_) (fun h_106 => ?_)
                · refine pw_iload_n (i := 2) C dX10_defun_140 rfl rfl ?_
                  refine pw_iload C dX10_defun_141 rfl ?_
                  refine pw_iconst C dX10_defun_143 ?_
                  refine pw_icmp_ne (tgt := 151) C (by omega) (by omega) dX10_defun_144 (by decide) (fun h_107 => ?_) (fun h_107 => ?_)
                  · refine pw_iconst C dX10_defun_151 ?_
                    refine pw_icmp_ne (tgt := 157) C (by omega) (by omega) dX10_defun_152 (by decide) (fun h_108 => ?_) (fun h_108 => ?_)
                    · refine pw_iload_n (i := 2) C dX10_defun_157 rfl rfl ?_
                      refine pw_if_ne (tgt := 173) C (by omega) dX10_defun_158 (by decide) (fun h_109 => ?_) (fun h_109 => ?_)
                      · refine pw_iload_n (i := 2) C dX10_defun_173 rfl rfl ?_
                        refine pw_if_ne (tgt := 201) C (by omega) dX10_defun_174 (by decide) (fun h_110 => ?_) (fun h_110 => ?_)
                        · refine pw_aload_n (i := 0) C dX10_defun_201 rfl rfl (Or.inr ⟨_, rfl⟩) ?_
                          refine pw_get (j := 34) C cl_X10 fl_X10_77 (by decide) rfl e_82 rfl dX10_defun_202 ?_
                          refine pw_stk (st' := [.ref (B 34)]) rfl ?_
                          refine pw_iload C dX10_defun_205 rfl ?_
                          refine pw_aload_n (i := 0) C dX10_defun_207 rfl rfl (Or.inr ⟨_, rfl⟩) ?_
                          refine pw_iload C dX10_defun_208 rfl ?_
                          refine pw_callV (As := [.int (iZ z_18)]) (st := [.int (iZ ((j : Nat) : Int)), .ref (B 34)]) C (m_X10_lengthOf g l e_82 R_92 rfl rfl K_58 v_56) my_X10_lengthOf ml_X10_325 (pw_rec.of C e_82 cl_X10.1) rfl ⟨Nat.le_of_ble_eq_true rfl, Nat.le_of_ble_eq_true rfl⟩ ⟨by (try dsimp only); omega, by (try dsimp only); omega⟩ rfl (Nat.le_of_ble_eq_true rfl) dX10_defun_210 ?_
                          rintro _ _ ⟨rfl, rfl⟩
                          refine pw_stk (st' := [.int (iZ (obLen (obCar (obCdr (obCdr X))))), .int (iZ ((j : Nat) : Int)), .ref (B 34)]) rfl ?_
                          have g_111 := obLen_rg R_92 v_56
                          refine pw_iast C c_103 ⟨by omega, by omega, by omega⟩ dX10_defun_213 (fun w_114 k_112 o_113 => ?_)
                          refine pw_iconst C dX10_defun_214 ?_
                          refine pw_istore (lv' := [(0, .ref b), (1, .int (iZ o)), (2, .int (iZ 1)), (3, .int (iZ z_17)), (4, .int (iZ z_18)), (5, .int (iZ z_34)), (6, .int (iZ ((j : Nat) : Int))), (7, .int (iZ 0))]) C dX10_defun_215 (by decide) rfl ?_
                          have hdvo : w_114 1036 = (B 35, some (AI g 240 dv)) := ((o_113 1036 (by omega)).trans ((o_87 1036 (by omega)).trans ((o_61 1036 (by omega)).trans ((o_44 1036 (by omega)).trans ((o_26 1036 (by omega)).trans (o_20 1036 (by omega))))))).trans d3
                          have loop : ∀ (kk k : Nat) (w1 : pw_W) (dv1 : Int → Int), k + kk = (lsO (obCar (obCdr (obCdr X)))).length → w1 1036 = (B 35, some (AI g 240 dv1)) → (∀ j, inI (dv1 j)) → VlsI t_35 n_36 dv1 (6 * ((j : Nat) : Int)) ((lsO (obCar (obCdr (obCdr X)))).take k) → (∀ i0 : Int, (i0 < 6 * ((j : Nat) : Int) ∨ 6 * ((j : Nat) : Int) + 6 ≤ i0) → dv1 i0 = dv i0) → (∀ q, q ≠ 1036 → w1 q = w_114 q) → pw_G g p l e { frames := 7, cells := 0, slots := 0, locals := 159 } s m args below meth c 8 (pw_Q g below (fun r w' => rCg g w w' b B x t n sN fu (plT T) (plT (if obLen X = 4 then (redoC T (obCar (obCdr X)) (obCar (obCdr (obCdr X))) (obCar (obCdr (obCdr (obCdr X))))).2 else T)) (if obLen X = 4 then ((redoC T (obCar (obCdr X)) (obCar (obCdr (obCdr X))) (obCar (obCdr (obCdr (obCdr X))))).1, none, 0, 0, nk) else (2, none, 0, 0, nk)) (nd2 X).1 3010 r) args s { frames := 7, cells := 0, slots := 0, locals := 159 }) 0 0 217 [(0, .ref b), (1, .int (iZ o)), (2, .int (iZ 1)), (3, .int (iZ z_17)), (4, .int (iZ z_18)), (5, .int (iZ z_34)), (6, .int (iZ ((j : Nat) : Int))), (7, .int (iZ ((k : Nat) : Int)))] [] w1 := by
                            intro kk
                            induction kk with
                            | zero =>
                              intro k w1 dv1 hkk y36 u35 hvs hvo hf1
                              refine pw_iload C dX10_defun_217 rfl ?_
                              refine pw_aload_n (i := 0) C dX10_defun_219 rfl rfl (Or.inr ⟨_, rfl⟩) ?_
                              have c_315 := ((hf1 1000 (by omega)).trans (o_113 1000 (by omega))).trans e_82
                              refine pw_get (j := 34) C cl_X10 fl_X10_77 (by decide) rfl c_315 rfl dX10_defun_220 ?_
                              refine pw_stk (st' := [.ref (B 34), .int (iZ ((k : Nat) : Int))]) rfl ?_
                              refine pw_iload C dX10_defun_223 rfl ?_
                              have c_316 := (hf1 1035 (by omega)).trans k_112
                              refine pw_iald C c_316 ⟨by omega, by omega, by omega⟩ dX10_defun_225 ?_
                              rw [upz_self]
                              refine pw_stk (st' := [.int (iZ (obLen (obCar (obCdr (obCdr X))))), .int (iZ ((k : Nat) : Int))]) rfl ?_
                              refine pw_icmp_ge (tgt := 256) C (by omega) (by omega) dX10_defun_226 (by decide) (fun h_317 => ?_) (fun h_317 => ?_)
                              · refine pw_aload_n (i := 0) C dX10_defun_256 rfl rfl (Or.inr ⟨_, rfl⟩) ?_
                                refine pw_get (j := 36) C cl_X10 fl_X10_83 (by decide) rfl c_315 rfl dX10_defun_257 ?_
                                refine pw_stk (st' := [.ref (B 36)]) rfl ?_
                                refine pw_iload C dX10_defun_260 rfl ?_
                                refine pw_iload C dX10_defun_262 rfl ?_
                                have c_318 := ((hf1 1037 (by omega)).trans ((o_113 1037 (by omega)).trans ((o_87 1037 (by omega)).trans ((o_61 1037 (by omega)).trans ((o_44 1037 (by omega)).trans ((o_26 1037 (by omega)).trans (o_20 1037 (by omega)))))))).trans d4
                                refine pw_iast C c_318 ⟨by omega, by omega, by omega⟩ dX10_defun_264 (fun w_321 k_319 o_320 => ?_)
                                refine pw_aload_n (i := 0) C dX10_defun_265 rfl rfl (Or.inr ⟨_, rfl⟩) ?_
                                refine pw_iconst C dX10_defun_266 ?_
                                have c_322 := (o_320 1000 (by omega)).trans c_315
                                refine pw_put (j := 69) C cl_X10 fl_X10_451 (by decide) rfl rfl rfl (by decide +kernel) (by decide +kernel) c_322 (Nat.le_of_ble_eq_true rfl) dX10_defun_267 (fun w_325 k_323 o_324 => ?_)
                                have k_326 : w_325 1000 = (b, some (mdE B (va_up (va_up (va_up (va_up (va_up (va_up (va_up (va_up x 37 z_17) 38 (obLen (obCar (obCdr (obCdr X))))) 7 n_36) 10 ((sN_37 : Nat) : Int)) 37 (-1)) 49 v_78) 51 u_79) 69 1))) := k_323
                                refine pw_iconst C dX10_defun_270 ?_
                                have c_327 := ((o_324 1034 (by omega)).trans ((o_320 1034 (by omega)).trans ((hf1 1034 (by omega)).trans ((o_113 1034 (by omega)).trans ((o_87 1034 (by omega)).trans ((o_61 1034 (by omega)).trans ((o_44 1034 (by omega)).trans ((o_26 1034 (by omega)).trans (o_20 1034 (by omega)))))))))).trans d1
                                have c_328 := ((o_324 1035 (by omega)).trans (o_320 1035 (by omega))).trans c_316
                                have c_329 := ((o_324 1036 (by omega)).trans (o_320 1036 (by omega))).trans y36
                                have c_330 := (o_324 1037 (by omega)).trans k_319
                                have htk : (lsO (obCar (obCdr (obCdr X)))).take k = lsO (obCar (obCdr (obCdr X))) := List.take_of_length_le (by omega)
                                rw [htk] at hvs
                                have hK0 : (redoC T (obCar (obCdr X)) (obCar (obCdr (obCdr X))) (obCar (obCdr (obCdr (obCdr X))))) = (0, dSet T (obCar (obCdr X)) (obCar (obCdr (obCdr X))) (obCar (obCdr (obCdr (obCdr X))))) := by unfold redoC; rw [if_pos hdef, hdl]; exact if_pos (by have := hfm; have e2 : obLen (plD d).2.1 = obLen d.2.1 := rfl; omega)
                                have hnT : plT (dSet T (obCar (obCdr X)) (obCar (obCdr (obCdr X))) (obCar (obCdr (obCdr (obCdr X))))) = (dSet (plT T) (obCar (obCdr X)) (obCar (obCdr (obCdr X))) (pl2 (obCar (obCdr (obCdr (obCdr X))))).1) := plT_set _ _ _ T
                                have hDx : MdD g w_325 B t_35 n_36 (dSet (plT T) (obCar (obCdr X)) (obCar (obCdr (obCdr X))) (pl2 (obCar (obCdr (obCdr (obCdr X))))).1) := ⟨_, _, _, _, c_327, c_328, c_329, c_330, ⟨u1, upz_inI u2 (by omega), u35, upz_inI u4 (by omega)⟩, DfM.set (hDf.ext x_41) hjd (fun e he => ⟨hDl e he, hT6 e he⟩) hvs hvo hv_47, by rw [dSet_len]; exact hT40⟩
                                have R_331 := R_92.same (w' := w_325) (fun k hk => (o_324 k (by omega)).trans ((o_320 k (by omega)).trans ((hf1 k (by omega)).trans (o_113 k (by omega)))))
                                have G_332 := G_59.same (w' := w_325) (fun k hk => (o_324 k (by omega)).trans ((o_320 k (by omega)).trans ((hf1 k (by omega)).trans ((o_113 k (by omega)).trans ((o_87 k (by omega)).trans (o_61 k (by omega)))))))
                                have G_333 := G_89.same (w' := w_325) (fun k hk => (o_324 k (by omega)).trans ((o_320 k (by omega)).trans ((hf1 k (by omega)).trans (o_113 k (by omega)))))
                                have G_334 := G_90.same (w' := w_325) (fun k hk => (o_324 k (by omega)).trans ((o_320 k (by omega)).trans ((hf1 k (by omega)).trans (o_113 k (by omega)))))
                                have G_335 := hEv.same (w' := w_325) (fun k hk => (o_324 k (by omega)).trans ((o_320 k (by omega)).trans ((hf1 k (by omega)).trans ((o_113 k (by omega)).trans ((o_87 k (by omega)).trans ((o_61 k (by omega)).trans ((o_44 k (by omega)).trans ((o_26 k (by omega)).trans (o_20 k (by omega))))))))))
                                have G_336 := hTp.same (w' := w_325) (fun k hk => (o_324 k (by omega)).trans ((o_320 k (by omega)).trans ((hf1 k (by omega)).trans ((o_113 k (by omega)).trans ((o_87 k (by omega)).trans ((o_61 k (by omega)).trans ((o_44 k (by omega)).trans ((o_26 k (by omega)).trans (o_20 k (by omega))))))))))
                                have G_337 := hTl.same (w' := w_325) (fun k hk => (o_324 k (by omega)).trans ((o_320 k (by omega)).trans ((hf1 k (by omega)).trans ((o_113 k (by omega)).trans ((o_87 k (by omega)).trans ((o_61 k (by omega)).trans ((o_44 k (by omega)).trans ((o_26 k (by omega)).trans (o_20 k (by omega))))))))))
                                have G_338 := hMp.same (w' := w_325) (fun k hk => (o_324 k (by omega)).trans ((o_320 k (by omega)).trans ((hf1 k (by omega)).trans ((o_113 k (by omega)).trans ((o_87 k (by omega)).trans ((o_61 k (by omega)).trans ((o_44 k (by omega)).trans ((o_26 k (by omega)).trans (o_20 k (by omega))))))))))
                                exact pw_iret C hr dX10_defun_271 (rCg.of (T0 := (dSet (plT T) (obCar (obCdr X)) (obCar (obCdr (obCdr X))) (pl2 (obCar (obCdr (obCdr (obCdr X))))).1)) (by rw [if_pos (by omega), hK0]; exact hnT) (R0 := (0, none, 0, 0, nk)) ((if_pos (by omega)).trans (by rw [hK0])) ⟨(va_up (va_up (va_up (va_up (va_up (va_up (va_up (va_up x 37 z_17) 38 (obLen (obCar (obCdr (obCdr X))))) 7 n_36) 10 ((sN_37 : Nat) : Int)) 37 (-1)) 49 v_78) 51 u_79) 69 1), t_35, n_36, sN_37, Z_38, 1, rfl, ⟨k_326, R_331, K_58, hDx, ⟨G_332, G_333, G_334, G_335, G_336, G_337, G_338⟩, (hO.same ((o_324 1015 (by omega)).trans ((o_320 1015 (by omega)).trans ((hf1 1015 (by omega)).trans ((o_113 1015 (by omega)).trans ((o_87 1015 (by omega)).trans ((o_61 1015 (by omega)).trans ((o_44 1015 (by omega)).trans ((o_26 1015 (by omega)).trans (o_20 1015 (by omega))))))))))), rfl, rfl, (by rw [dSet_len]; exact h32), rfl, h39, h40, h41, h45, h47, rfl, hPn.1⟩, x_41, by omega, by omega, ⟨rfl, rfl, rfl⟩, fun k hk => (o_324 k (by omega)).trans ((o_320 k (by omega)).trans ((hf1 k (by omega)).trans ((o_113 k (by omega)).trans ((o_87 k (by omega)).trans ((o_61 k (by omega)).trans ((o_44 k (by omega)).trans ((o_26 k (by omega)).trans (o_20 k (by omega))))))))), Or.inr ⟨rfl, by omega⟩⟩)
                              · exfalso; omega
                            | succ kk ih =>
                              intro k w1 dv1 hkk y36 u35 hvs hvo hf1
                              refine pw_iload C dX10_defun_217 rfl ?_
                              refine pw_aload_n (i := 0) C dX10_defun_219 rfl rfl (Or.inr ⟨_, rfl⟩) ?_
                              have c_539 := ((hf1 1000 (by omega)).trans (o_113 1000 (by omega))).trans e_82
                              refine pw_get (j := 34) C cl_X10 fl_X10_77 (by decide) rfl c_539 rfl dX10_defun_220 ?_
                              refine pw_stk (st' := [.ref (B 34), .int (iZ ((k : Nat) : Int))]) rfl ?_
                              refine pw_iload C dX10_defun_223 rfl ?_
                              have c_540 := (hf1 1035 (by omega)).trans k_112
                              refine pw_iald C c_540 ⟨by omega, by omega, by omega⟩ dX10_defun_225 ?_
                              rw [upz_self]
                              refine pw_stk (st' := [.int (iZ (obLen (obCar (obCdr (obCdr X))))), .int (iZ ((k : Nat) : Int))]) rfl ?_
                              refine pw_icmp_ge (tgt := 256) C (by omega) (by omega) dX10_defun_226 (by decide) (fun h_541 => ?_) (fun h_541 => ?_)
                              · exfalso; omega
                              · refine pw_aload_n (i := 0) C dX10_defun_229 rfl rfl (Or.inr ⟨_, rfl⟩) ?_
                                refine pw_get (j := 35) C cl_X10 fl_X10_80 (by decide) rfl c_539 rfl dX10_defun_230 ?_
                                refine pw_stk (st' := [.ref (B 35)]) rfl ?_
                                refine pw_bipush C dX10_defun_233 (by decide) ?_
                                refine pw_iload C dX10_defun_235 rfl ?_
                                refine pw_imul C dX10_defun_237 ?_
                                refine pw_iload C dX10_defun_238 rfl ?_
                                refine pw_iadd C dX10_defun_240 ?_
                                refine pw_aload_n (i := 0) C dX10_defun_241 rfl rfl (Or.inr ⟨_, rfl⟩) ?_
                                refine pw_iload C dX10_defun_242 rfl ?_
                                refine pw_iload C dX10_defun_244 rfl ?_
                                have R_542 := R_92.same (w' := w1) (fun k hk => (hf1 k (by omega)).trans (o_113 k (by omega)))
                                refine pw_callV (As := [.int (iZ z_18), .int (iZ ((k : Nat) : Int))]) (st := [.int (iZ ((6 * ((j : Nat) : Int)) + ((k : Nat) : Int))), .ref (B 35)]) C (m_X10_nth g l c_539 R_542 rfl rfl K_58 v_56 (i := k) (by omega) (fun q hq => (lsO_cdN q (obCar (obCdr (obCdr X))) (by omega)).1)) my_X10_nth ml_X10_292 (pw_rec.of C c_539 cl_X10.1) rfl ⟨Nat.le_of_ble_eq_true rfl, Nat.le_of_ble_eq_true rfl⟩ ⟨by (try dsimp only); omega, by (try dsimp only); omega⟩ rfl (Nat.le_of_ble_eq_true rfl) dX10_defun_246 ?_
                                rintro _ _ ⟨rfl, z_543, rfl, z_543q⟩
                                have z_543v : Vl t_35 n_36 z_543 (obCar (cdN k (obCar (obCdr (obCdr X))))) := z_543q
                                have z_543r := Vl.rg R_542 z_543v
                                refine pw_stk (st' := [.int (iZ z_543), .int (iZ ((6 * ((j : Nat) : Int)) + ((k : Nat) : Int))), .ref (B 35)]) rfl ?_
                                refine pw_iast C y36 ⟨by omega, by omega, by omega⟩ dX10_defun_249 (fun w_546 k_544 o_545 => ?_)
                                refine pw_iinc (lv' := [(0, .ref b), (1, .int (iZ o)), (2, .int (iZ 1)), (3, .int (iZ z_17)), (4, .int (iZ z_18)), (5, .int (iZ z_34)), (6, .int (iZ ((j : Nat) : Int))), (7, .int (iZ (((k : Nat) : Int) + 1)))]) C dX10_defun_250 rfl (by decide) rfl ?_
                                refine pw_goto (tgt := 217) C dX10_defun_253 (by decide) ?_
                                rw [show ((k : Nat) : Int) + 1 = ((k + 1 : Nat) : Int) by omega]
                                have hY := (lsO_cdN k (obCar (obCdr (obCdr X))) (by omega)).2
                                have hva := VlsI.add (z := z_543) (v := obCar (cdN k (obCar (obCdr (obCdr X))))) z_543v hvs
                                rw [List.length_take_of_le (by omega)] at hva
                                exact ih (k + 1) w_546 _ (by omega) k_544 (upz_inI u35 (by omega)) (by rw [List.take_add_one, hY]; exact hva) (fun j hj => by rw [upz_ne _ _ (by omega)]; exact hvo j hj) (fun q hq => (o_545 q (by omega)).trans (hf1 q (by omega)))
                          exact loop (lsO (obCar (obCdr (obCdr X)))).length 0 w_114 dv (by omega) hdvo u3 trivial (fun _ _ => rfl) (fun _ _ => rfl)
                        · exfalso; omega
                      · exfalso; omega
                    · exfalso; omega
                  · exfalso; omega
                · refine pw_iconst C dX10_defun_138 ?_
                  have hK0 : (redoC T (obCar (obCdr X)) (obCar (obCdr (obCdr X))) (obCar (obCdr (obCdr (obCdr X))))) = (2, T) := by unfold redoC; rw [if_pos hdef, hdl]; exact if_neg (fun e => by have e2 : obLen (plD d).2.1 = obLen (obCar (obCdr (obCdr X))) := e; omega)
                  have G_547 := G_59.same (w' := w_88) (fun k hk => (o_87 k (by omega)).trans (o_61 k (by omega)))
                  have G_548 := hEv.same (w' := w_88) (fun k hk => (o_87 k (by omega)).trans ((o_61 k (by omega)).trans ((o_44 k (by omega)).trans ((o_26 k (by omega)).trans (o_20 k (by omega))))))
                  have G_549 := hTp.same (w' := w_88) (fun k hk => (o_87 k (by omega)).trans ((o_61 k (by omega)).trans ((o_44 k (by omega)).trans ((o_26 k (by omega)).trans (o_20 k (by omega))))))
                  have G_550 := hTl.same (w' := w_88) (fun k hk => (o_87 k (by omega)).trans ((o_61 k (by omega)).trans ((o_44 k (by omega)).trans ((o_26 k (by omega)).trans (o_20 k (by omega))))))
                  have G_551 := hMp.same (w' := w_88) (fun k hk => (o_87 k (by omega)).trans ((o_61 k (by omega)).trans ((o_44 k (by omega)).trans ((o_26 k (by omega)).trans (o_20 k (by omega))))))
                  exact pw_iret C hr dX10_defun_139 (rCg.of (T0 := plT T) (by rw [if_pos (by omega), hK0]) (R0 := (2, none, 0, 0, nk)) ((if_pos (by omega)).trans (by rw [hK0])) ⟨(va_up (va_up (va_up (va_up (va_up (va_up (va_up x 37 z_17) 38 (obLen (obCar (obCdr (obCdr X))))) 7 n_36) 10 ((sN_37 : Nat) : Int)) 37 (-1)) 49 v_78) 51 u_79), t_35, n_36, sN_37, Z_38, 0, rfl, ⟨e_82, R_92, K_58, D_93, ⟨G_547, G_89, G_90, G_548, G_549, G_550, G_551⟩, (hO.same ((o_87 1015 (by omega)).trans ((o_61 1015 (by omega)).trans ((o_44 1015 (by omega)).trans ((o_26 1015 (by omega)).trans (o_20 1015 (by omega))))))), rfl, rfl, h32, rfl, h39, h40, h41, h45, h47, h69, hPn.1⟩, x_41, by omega, by omega, ⟨rfl, rfl, rfl⟩, fun k hk => (o_87 k (by omega)).trans ((o_61 k (by omega)).trans ((o_44 k (by omega)).trans ((o_26 k (by omega)).trans (o_20 k (by omega))))), Or.inl ⟨rfl, fun k hk => (o_87 k (by omega)).trans ((o_61 k (by omega)).trans ((o_44 k (by omega)).trans ((o_26 k (by omega)).trans (o_20 k (by omega))))), [], (List.append_nil _).symm⟩⟩)
          · refine pw_iconst C dX10_defun_103 ?_
            have hK0 : (redoC T (obCar (obCdr X)) (obCar (obCdr (obCdr X))) (obCar (obCdr (obCdr (obCdr X))))) = (2, T) := by exact (defC_no (by unfold isDef; rw [isTm_ref _ _ _ (by rw [← isTm_plT, plT_own]; exact hyes), h_91, Bool.and_false])).2
            have R_552 := R_74.same (w' := w_88) (fun k hk => (o_87 k (by omega)))
            have D_553 := D_32.same (w' := w_88) (fun k hk => (o_87 k (by omega)).trans ((o_61 k (by omega)).trans (o_44 k (by omega)))) x_41
            have G_554 := G_59.same (w' := w_88) (fun k hk => (o_87 k (by omega)).trans (o_61 k (by omega)))
            have G_555 := hEv.same (w' := w_88) (fun k hk => (o_87 k (by omega)).trans ((o_61 k (by omega)).trans ((o_44 k (by omega)).trans ((o_26 k (by omega)).trans (o_20 k (by omega))))))
            have G_556 := hTp.same (w' := w_88) (fun k hk => (o_87 k (by omega)).trans ((o_61 k (by omega)).trans ((o_44 k (by omega)).trans ((o_26 k (by omega)).trans (o_20 k (by omega))))))
            have G_557 := hTl.same (w' := w_88) (fun k hk => (o_87 k (by omega)).trans ((o_61 k (by omega)).trans ((o_44 k (by omega)).trans ((o_26 k (by omega)).trans (o_20 k (by omega))))))
            have G_558 := hMp.same (w' := w_88) (fun k hk => (o_87 k (by omega)).trans ((o_61 k (by omega)).trans ((o_44 k (by omega)).trans ((o_26 k (by omega)).trans (o_20 k (by omega))))))
            exact pw_iret C hr dX10_defun_104 (rCg.of (T0 := plT T) (by rw [if_pos (by omega), hK0]) (R0 := (2, none, 0, 0, nk)) ((if_pos (by omega)).trans (by rw [hK0])) ⟨(va_up (va_up (va_up (va_up (va_up (va_up (va_up x 37 z_17) 38 (obLen (obCar (obCdr (obCdr X))))) 7 n_36) 10 ((sN_37 : Nat) : Int)) 37 (-1)) 49 v_78) 51 u_79), t_35, n_36, sN_37, Z_38, 0, rfl, ⟨e_82, R_552, K_58, D_553, ⟨G_554, G_89, G_90, G_555, G_556, G_557, G_558⟩, (hO.same ((o_87 1015 (by omega)).trans ((o_61 1015 (by omega)).trans ((o_44 1015 (by omega)).trans ((o_26 1015 (by omega)).trans (o_20 1015 (by omega))))))), rfl, rfl, h32, rfl, h39, h40, h41, h45, h47, h69, hPn.1⟩, x_41, by omega, by omega, ⟨rfl, rfl, rfl⟩, fun k hk => (o_87 k (by omega)).trans ((o_61 k (by omega)).trans ((o_44 k (by omega)).trans ((o_26 k (by omega)).trans (o_20 k (by omega))))), Or.inl ⟨rfl, fun k hk => (o_87 k (by omega)).trans ((o_61 k (by omega)).trans ((o_44 k (by omega)).trans ((o_26 k (by omega)).trans (o_20 k (by omega))))), [], (List.append_nil _).symm⟩⟩)
      · refine pw_iconst C dX10_defun_37 ?_
        have hK0 : (redoC T (obCar (obCdr X)) (obCar (obCdr (obCdr X))) (obCar (obCdr (obCdr (obCdr X))))) = (2, T) := by exact (defC_no (by unfold isDef; rw [h_16, Bool.and_false]; rfl)).2
        exact pw_iret C hr dX10_defun_38 (rCg.of (T0 := plT T) (by rw [if_pos (by omega), hK0]) (R0 := (2, none, 0, 0, nk)) ((if_pos (by omega)).trans (by rw [hK0])) ⟨x, t, n, sN, fZ, 0, rfl, ⟨h0, hR, hK, hD, ⟨hBt, hWk, hIt, hEv, hTp, hTl, hMp⟩, hO, h7, h10, h32, h37, h39, h40, h41, h45, h47, h69, h38⟩, Ext.rf, by omega, by omega, ⟨rfl, rfl, rfl⟩, fun k hk => rfl, Or.inl ⟨rfl, fun k hk => rfl, [], (List.append_nil _).symm⟩⟩)

