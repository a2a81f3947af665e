abbrev btX (x : Nat → Int) (n s c v : Int) : Nat → Int := va_up (va_up (va_up (va_up x 7 n) 10 s) 45 c) 47 v
/-- the arrays of a term that is being built -/
def BtA (g : pw_P) (w : pw_W) (B : Nat → Nat) (g1 g2 g3 fk : Int → Int) : Prop := w 1043 = (B 42, some (AI g 1200 g1)) ∧ w 1044 = (B 43, some (AI g 1200 g2)) ∧ w 1045 = (B 44, some (AI g 1200 g3)) ∧ w 1047 = (B 46, some (AI g 2400 fk)) ∧ (∀ j, inI (g1 j)) ∧ (∀ j, inI (g2 j)) ∧ (∀ j, inI (g3 j)) ∧ (∀ j, inI (fk j))
theorem BtA.same {g : pw_P} {w w' : pw_W} {B : Nat → Nat} {g1 g2 g3 fk : Int → Int} (h : BtA g w B g1 g2 g3 fk) (hf : ∀ k, (k = 1043 ∨ k = 1044 ∨ k = 1045 ∨ k = 1047) → w' k = w k) : BtA g w' B g1 g2 g3 fk := ⟨(hf _ (by omega)).trans h.1, (hf _ (by omega)).trans h.2.1, (hf _ (by omega)).trans h.2.2.1, (hf _ (by omega)).trans h.2.2.2.1, h.2.2.2.2⟩
def bFr (w w' : pw_W) : Prop := ∀ k, (k < 1000 ∨ k = 1008 ∨ (1010 < k ∧ k < 1043) ∨ k = 1046 ∨ 1047 < k) → w' k = w k
/-- a term has begun -/
def rBg (g : pw_P) (w w' : pw_W) (b : Nat) (B : Nat → Nat) (x : Nat → Int) (t : Int → Ob) (n : Int) (sN : Nat) (fZ g1 g2 g3 fk : Int → Int) (c1 v1 o : Int) (T1 : List Dn) (X : Ob) (r : Option Value) : Prop :=
  r = some (.int (iZ (b2i (bgO T1 X)))) ∧ ∃ (t' : Int → Ob) (n' : Int) (s' : Nat) (fZ' : Int → Int), RS g w' B t' n' s' fZ' ∧ Ext t n t' n' ∧ n' ≤ n + 2 ∧ s' ≤ sN ∧ (∀ j : Int, 0 ≤ j → j < n → fZ' j = fZ j) ∧ bFr w w' ∧
  (if bgO T1 X = false then w' 1000 = (b, some (mdE B (btX x n' ((s' : Nat) : Int) c1 v1))) ∧ BtA g w' B g1 g2 g3 fk
   else if isCl X then ∃ y, w' 1000 = (b, some (mdE B (btX x n' ((s' : Nat) : Int) (c1 + 1) v1))) ∧ BtA g w' B (upz g1 c1 o) (upz g2 c1 y) (upz g3 c1 v1) fk ∧ Vl t' n' y (obCdr X) ∧ n' = n
   else ∃ z, w' 1000 = (b, some (mdE B (btX x n' ((s' : Nat) : Int) c1 (v1 + 1)))) ∧ BtA g w' B g1 g2 g3 (upz fk v1 z) ∧ Vl t' n' z (pl2 X).1)
theorem arT_rg (T : List Dn) (Y : Ob) (h : ∀ d ∈ T, obLen d.2.1 ≤ 6) : -1 ≤ arT T Y ∧ arT T Y ≤ 6 := by
  unfold arT
  split
  · rename_i hk
    have key : ∀ j : Fin 17, -1 ≤ arB j.val ∧ arB j.val ≤ 6 := by decide
    exact key ⟨kIx Y, by omega⟩
  · cases hd : dLk T Y with
    | none => decide
    | some d => exact ⟨obLen_ge _, h d (dLk_mem hd).1⟩
theorem ar_fn {cn fz ar : Int} {T : List Dn} (h : ((3 ≤ fz ∧ fz ≤ 16) ∨ fz = 99 ∨ (100 ≤ fz ∧ fz < 100 + T.length)) ∧ mnZ cn fz T = ar) (hcn : 0 ≤ cn) (hD : ∀ d ∈ T, 0 ≤ obLen d.2.1) : 0 ≤ ar := by
  rw [← h.2]
  unfold mnZ
  split
  · decide
  · split
    · decide
    · split
      · decide
      · split
        · exact hcn
        · split
          · rename_i d hd; exact hD d (List.mem_of_getElem? hd)
          · decide
set_option maxRecDepth 100000 in
set_option maxHeartbeats 4000000 in
/-- beginTerm -/
theorem m_X10_beginTerm (g : pw_P) (l : Launch) {w : pw_W} {b : Nat} {B : Nat → Nat} {x : Nat → Int} (h0 : w 1000 = (b, some (mdE B x))) {t : Int → Ob} {n : Int} {sN : Nat} {fZ : Int → Int} (hR : RS g w B t n sN fZ) (h7 : x 7 = n) (h10 : x 10 = ((sN : Nat) : Int)) (hK : RK t n) {T : List Dn} (hD : MdD g w B t n T) (h32 : x 32 = ((T.length : Nat) : Int)) {o : Int} {X : Ob} (ho : Vl t n o X) {T1 : List Dn} {cm cn c1 v1 : Int} {g1 g2 g3 fk : Int → Int} (hT : TNs T) (hDl : ∀ d ∈ T, 0 ≤ obLen d.2.1) (hOw : OwnI t n cm cn T T1) (hT1n : TNs T1) (hT1r : ∀ d ∈ T1, obLen d.2.1 ≤ 6) (hcn : 0 ≤ cn) (h37 : x 37 = cm) (hcm : -1 ≤ cm ∧ cm < 40000) (h38 : x 38 = cn) (h45 : x 45 = c1) (h47 : x 47 = v1) (hB : BtA g w B g1 g2 g3 fk) (hc1 : 0 ≤ c1 ∧ c1 < 1200) (hv1 : 0 ≤ v1 ∧ v1 < 2400) (hcap : n + 2 ≤ 40000) : pw_M g l yX10_beginTerm cX10_beginTerm 3 (some .boolean) { frames := 5, cells := 0, slots := 0, locals := 111 } [.ref b, .int (iZ o)] w (fun r w' => rBg g w w' b B x t n sN fZ g1 g2 g3 fk c1 v1 o T1 X r) := by
  refine pw_M.of (by decide) (Nat.le_of_ble_eq_true rfl) rfl ?_
  intro p e s m args below meth c C hr hn
  obtain ⟨fL, fR, fH, fV, l0, l1, l4, l5, ⟨m0, m1, m4, m5⟩, hln⟩ := RS.lens hR
  have hRn := hR.n
  have hor := Vl.rg hR ho
  refine pw_aload_n (i := 0) C dX10_beginTerm_0 rfl rfl (Or.inr ⟨_, rfl⟩) ?_
  refine pw_iload_n (i := 1) C dX10_beginTerm_1 rfl rfl ?_
  refine pw_callV (As := [.int (iZ o)]) (st := []) C (m_X10_isPair g l h0 hR h7 h10 ho) my_X10_isPair ml_X10_195 (pw_rec.of C h0 cl_X10.1) rfl ⟨Nat.le_of_ble_eq_true rfl, Nat.le_of_ble_eq_true rfl⟩ ⟨by (try dsimp only); omega, by (try dsimp only); omega⟩ rfl (Nat.le_of_ble_eq_true rfl) dX10_beginTerm_2 ?_
  rintro _ _ ⟨rfl, rfl⟩
  refine pw_stk (st' := [.int (iZ (b2i (obP X)))]) rfl ?_
  refine pw_if_neB (tgt := 15) C dX10_beginTerm_5 (by decide) (fun h_1 => ?_) (fun h_1 => ?_)
  · have hp := h_1
    have hcc := (hln o X ho).1 hp
    have hrr1 := Vl.rg hR hcc.1
    have hrr2 := Vl.rg hR hcc.2
    refine pw_aload_n (i := 0) C dX10_beginTerm_15 rfl rfl (Or.inr ⟨_, rfl⟩) ?_
    refine pw_get (j := 0) C cl_X10 fl_X10_8 (by decide) rfl h0 rfl dX10_beginTerm_16 ?_
    refine pw_stk (st' := [.ref (B 0)]) rfl ?_
    refine pw_iload_n (i := 1) C dX10_beginTerm_19 rfl rfl ?_
    have g_2 := m0 o
    refine pw_iald C l0 ⟨by omega, by omega, by omega⟩ dX10_beginTerm_20 ?_
    refine pw_iconst C dX10_beginTerm_21 ?_
    refine pw_icmp_ne (tgt := 56) C (by omega) (by omega) dX10_beginTerm_22 (by decide) (fun h_3 => ?_) (fun h_3 => ?_)
    · have hnq : obCar X ≠ oQuote := fun e => absurd ((RS.inj hR hcc.1 (hK.v 2 (by decide))).mpr e) (by omega)
      have hnqq : obQ X = false := by unfold obQ; rw [decide_eq_false (p := obCar X = oQuote) hnq]; rfl
      refine pw_aload_n (i := 0) C dX10_beginTerm_56 rfl rfl (Or.inr ⟨_, rfl⟩) ?_
      refine pw_aload_n (i := 0) C dX10_beginTerm_57 rfl rfl (Or.inr ⟨_, rfl⟩) ?_
      refine pw_get (j := 0) C cl_X10 fl_X10_8 (by decide) rfl h0 rfl dX10_beginTerm_58 ?_
      refine pw_stk (st' := [.ref (B 0), .ref b]) rfl ?_
      refine pw_iload_n (i := 1) C dX10_beginTerm_61 rfl rfl ?_
      have g_4 := m0 o
      refine pw_iald C l0 ⟨by omega, by omega, by omega⟩ dX10_beginTerm_62 ?_
      refine pw_callV (As := [.int (iZ (fL o))]) (st := []) C (m_X10_isSymbol g l h0 hR h7 h10 hcc.1) my_X10_isSymbol ml_X10_268 (pw_rec.of C h0 cl_X10.1) rfl ⟨Nat.le_of_ble_eq_true rfl, Nat.le_of_ble_eq_true rfl⟩ ⟨by (try dsimp only); omega, by (try dsimp only); omega⟩ rfl (Nat.le_of_ble_eq_true rfl) dX10_beginTerm_63 ?_
      rintro _ _ ⟨rfl, rfl⟩
      refine pw_stk (st' := [.int (iZ (b2i (obS (obCar X))))]) rfl ?_
      refine pw_if_neB (tgt := 71) C dX10_beginTerm_66 (by decide) (fun h_5 => ?_) (fun h_5 => ?_)
      · refine pw_aload_n (i := 0) C dX10_beginTerm_71 rfl rfl (Or.inr ⟨_, rfl⟩) ?_
        refine pw_aload_n (i := 0) C dX10_beginTerm_72 rfl rfl (Or.inr ⟨_, rfl⟩) ?_
        refine pw_get (j := 0) C cl_X10 fl_X10_8 (by decide) rfl h0 rfl dX10_beginTerm_73 ?_
        refine pw_stk (st' := [.ref (B 0), .ref b]) rfl ?_
        refine pw_iload_n (i := 1) C dX10_beginTerm_76 rfl rfl ?_
        have g_6 := m0 o
        refine pw_iald C l0 ⟨by omega, by omega, by omega⟩ dX10_beginTerm_77 ?_
        refine pw_callV (As := [.int (iZ (fL o))]) (st := []) C (m_X10_functionOf g l h0 hR h7 h10 hK hD h32 hcc.1 h37 hcm) my_X10_functionOf ml_X10_322 (pw_rec.of C h0 cl_X10.1) rfl ⟨Nat.le_of_ble_eq_true rfl, Nat.le_of_ble_eq_true rfl⟩ ⟨by (try dsimp only); omega, by (try dsimp only); omega⟩ rfl (Nat.le_of_ble_eq_true rfl) dX10_beginTerm_78 ?_
        rintro _ _ ⟨rfl, rfl⟩
        have hfa := fn_ar hR hK hcc.1 hT hOw
        generalize hfz : fnZ cm (fL o) T (obCar X) = fz at *
        have hT40 : T.length ≤ 40 := by obtain ⟨_, _, _, _, _, _, _, _, _, _, q⟩ := hD; exact q
        have hfzr : -1 ≤ fz ∧ fz < 200 := by omega
        refine pw_stk (st' := [.int (iZ fz)]) rfl ?_
        refine pw_istore_n (i := 2) (lv' := [(0, .ref b), (1, .int (iZ o)), (2, .int (iZ fz))]) C dX10_beginTerm_81 rfl (by decide) rfl ?_
        refine pw_iload_n (i := 2) C dX10_beginTerm_82 rfl rfl ?_
        refine pw_iconst C dX10_beginTerm_83 ?_
        refine pw_icmp_eq (tgt := 105) C (by omega) (by omega) dX10_beginTerm_84 (by decide) (fun h_7 => ?_) (fun h_7 => ?_)
        · refine pw_iconst C dX10_beginTerm_105 ?_
          have hbg : bgO T1 X = false := by unfold bgO; rw [hp, hnqq, decide_eq_false (p := 0 ≤ arT T1 (obCar X) ∧ arT T1 (obCar X) = obLen (obCdr X)) (by have := hfa.resolve_right (fun q => by omega); rw [this.2]; omega), Bool.and_false]; rfl
          exact pw_zret C hr (by decide +kernel) dX10_beginTerm_106 ⟨by rw [hbg]; rfl, t, n, sN, fZ, hR, Ext.rf, by omega, Nat.le_refl _, fun _ _ _ => rfl, fun _ _ => rfl, by rw [if_pos hbg]; exact ⟨by rw [← h7, ← h10, ← h45, ← h47]; exact h0, hB⟩⟩
        · refine pw_aload_n (i := 0) C dX10_beginTerm_87 rfl rfl (Or.inr ⟨_, rfl⟩) ?_
          refine pw_aload_n (i := 0) C dX10_beginTerm_88 rfl rfl (Or.inr ⟨_, rfl⟩) ?_
          refine pw_get (j := 1) C cl_X10 fl_X10_14 (by decide) rfl h0 rfl dX10_beginTerm_89 ?_
          refine pw_stk (st' := [.ref (B 1), .ref b]) rfl ?_
          refine pw_iload_n (i := 1) C dX10_beginTerm_92 rfl rfl ?_
          have g_8 := m1 o
          refine pw_iald C l1 ⟨by omega, by omega, by omega⟩ dX10_beginTerm_93 ?_
          refine pw_callV (As := [.int (iZ (fR o))]) (st := []) C (m_X10_lengthOf g l h0 hR h7 h10 hK hcc.2) my_X10_lengthOf ml_X10_325 (pw_rec.of C h0 cl_X10.1) rfl ⟨Nat.le_of_ble_eq_true rfl, Nat.le_of_ble_eq_true rfl⟩ ⟨by (try dsimp only); omega, by (try dsimp only); omega⟩ rfl (Nat.le_of_ble_eq_true rfl) dX10_beginTerm_94 ?_
          rintro _ _ ⟨rfl, rfl⟩
          refine pw_stk (st' := [.int (iZ (obLen (obCdr X)))]) rfl ?_
          have g_9 := obLen_rg hR hcc.2
          refine pw_aload_n (i := 0) C dX10_beginTerm_97 rfl rfl (Or.inr ⟨_, rfl⟩) ?_
          refine pw_iload_n (i := 2) C dX10_beginTerm_98 rfl rfl ?_
          have hfb := hfa.resolve_left (fun q => by omega)
          refine pw_callV (As := [.int (iZ fz)]) (st := [.int (iZ (obLen (obCdr X)))]) C (m_X10_manyOf g l h0 hR h7 h10 hK hD h32 h38 hfb.1) my_X10_manyOf ml_X10_328 (pw_rec.of C h0 cl_X10.1) rfl ⟨Nat.le_of_ble_eq_true rfl, Nat.le_of_ble_eq_true rfl⟩ ⟨by (try dsimp only); omega, by (try dsimp only); omega⟩ rfl (Nat.le_of_ble_eq_true rfl) dX10_beginTerm_99 ?_
          rintro _ _ ⟨rfl, rfl⟩
          rw [hfb.2]
          have harr := arT_rg T1 (obCar X) hT1r
          refine pw_stk (st' := [.int (iZ (arT T1 (obCar X))), .int (iZ (obLen (obCdr X)))]) rfl ?_
          refine pw_icmp_eq (tgt := 107) C (by omega) (by omega) dX10_beginTerm_102 (by decide) (fun h_10 => ?_) (fun h_10 => ?_)
          · have har0 : 0 ≤ arT T1 (obCar X) := ar_fn hfb hcn hDl
            refine pw_aload_n (i := 0) C dX10_beginTerm_107 rfl rfl (Or.inr ⟨_, rfl⟩) ?_
            refine pw_iload_n (i := 1) C dX10_beginTerm_108 rfl rfl ?_
            refine pw_callV (As := [.int (iZ o)]) (st := []) C (m_X10_openCall g l h0 hR h7 h10 hK ho hB.1 hB.2.2.2.2.1 hB.2.1 hB.2.2.2.2.2.1 hB.2.2.1 hB.2.2.2.2.2.2.1 h45 h47 (by omega) hp) my_X10_openCall ml_X10_331 (pw_rec.of C h0 cl_X10.1) rfl ⟨Nat.le_of_ble_eq_true rfl, Nat.le_of_ble_eq_true rfl⟩ ⟨by (try dsimp only); omega, by (try dsimp only); omega⟩ rfl (Nat.le_of_ble_eq_true rfl) dX10_beginTerm_109 ?_
            rintro _ w9 ⟨rfl, y, q0, q1, q2, q3, q4, qo⟩
            refine pw_stk (st' := []) rfl ?_
            refine pw_iconst C dX10_beginTerm_112 ?_
            have hbg : bgO T1 X = true := by unfold bgO; rw [decide_eq_true (p := obCar X ≠ oQuote) hnq, decide_eq_true (p := 0 ≤ arT T1 (obCar X) ∧ arT T1 (obCar X) = obLen (obCdr X)) ⟨har0, by omega⟩]; simp
            have hic : isCl X = true := by unfold isCl; rw [hp, decide_eq_true (p := obCar X ≠ oQuote) hnq]; rfl
            exact pw_zret C hr (by decide +kernel) dX10_beginTerm_113 ⟨by rw [hbg]; rfl, t, n, sN, fZ, hR.same (fun k hk => (qo k (by omega))), Ext.rf, by omega, Nat.le_refl _, fun _ _ _ => rfl, fun k hk => (qo k (by omega)), by rw [if_neg (by rw [hbg]; decide), if_pos hic]; exact ⟨y, by rw [q0, ← h7, ← h10, ← h47]; rfl, ⟨q1, q2, q3, ((qo 1047 (by omega))).trans hB.2.2.2.1, upz_inI hB.2.2.2.2.1 (by omega), upz_inI hB.2.2.2.2.2.1 (by have := Vl.rg hR q4; omega), upz_inI hB.2.2.2.2.2.2.1 (by omega), hB.2.2.2.2.2.2.2⟩, q4, rfl⟩⟩
          · refine pw_iconst C dX10_beginTerm_105 ?_
            have hbg : bgO T1 X = false := by unfold bgO; rw [hp, hnqq, decide_eq_false (p := 0 ≤ arT T1 (obCar X) ∧ arT T1 (obCar X) = obLen (obCdr X)) (fun q => by omega), Bool.and_false]; rfl
            exact pw_zret C hr (by decide +kernel) dX10_beginTerm_106 ⟨by rw [hbg]; rfl, t, n, sN, fZ, hR, Ext.rf, by omega, Nat.le_refl _, fun _ _ _ => rfl, fun _ _ => rfl, by rw [if_pos hbg]; exact ⟨by rw [← h7, ← h10, ← h45, ← h47]; exact h0, hB⟩⟩
      · refine pw_iconst C dX10_beginTerm_69 ?_
        have hbg : bgO T1 X = false := by unfold bgO; rw [hp, hnqq, decide_eq_false (p := 0 ≤ arT T1 (obCar X) ∧ arT T1 (obCar X) = obLen (obCdr X)) (by rw [arT_ns hT1n h_5]; omega), Bool.and_false]; rfl
        exact pw_zret C hr (by decide +kernel) dX10_beginTerm_70 ⟨by rw [hbg]; rfl, t, n, sN, fZ, hR, Ext.rf, by omega, Nat.le_refl _, fun _ _ _ => rfl, fun _ _ => rfl, by rw [if_pos hbg]; exact ⟨by rw [← h7, ← h10, ← h45, ← h47]; exact h0, hB⟩⟩
    · have hq := (RS.inj hR hcc.1 (hK.v 2 (by decide))).mp (by omega)
      refine pw_aload_n (i := 0) C dX10_beginTerm_25 rfl rfl (Or.inr ⟨_, rfl⟩) ?_
      refine pw_iload_n (i := 1) C dX10_beginTerm_26 rfl rfl ?_
      refine pw_callV (As := [.int (iZ o)]) (st := []) C (m_X10_isQuoted g l h0 hR h7 h10 hK ho) my_X10_isQuoted ml_X10_286 (pw_rec.of C h0 cl_X10.1) rfl ⟨Nat.le_of_ble_eq_true rfl, Nat.le_of_ble_eq_true rfl⟩ ⟨by (try dsimp only); omega, by (try dsimp only); omega⟩ rfl (Nat.le_of_ble_eq_true rfl) dX10_beginTerm_27 ?_
      rintro _ _ ⟨rfl, rfl⟩
      refine pw_stk (st' := [.int (iZ (b2i (obQ X)))]) rfl ?_
      refine pw_if_neB (tgt := 35) C dX10_beginTerm_30 (by decide) (fun h_11 => ?_) (fun h_11 => ?_)
      · have hqq := h_11
        have hp2 : obP (obCdr X) = true := by unfold obQ at hqq; simp only [Bool.and_eq_true] at hqq; exact hqq.2.1
        have hc2 := (hln _ _ hcc.2).1 hp2
        have hrr3 := Vl.rg hR hc2.1
        refine pw_aload_n (i := 0) C dX10_beginTerm_35 rfl rfl (Or.inr ⟨_, rfl⟩) ?_
        refine pw_aload_n (i := 0) C dX10_beginTerm_36 rfl rfl (Or.inr ⟨_, rfl⟩) ?_
        refine pw_aload_n (i := 0) C dX10_beginTerm_37 rfl rfl (Or.inr ⟨_, rfl⟩) ?_
        refine pw_get (j := 0) C cl_X10 fl_X10_8 (by decide) rfl h0 rfl dX10_beginTerm_38 ?_
        refine pw_stk (st' := [.ref (B 0), .ref b, .ref b]) rfl ?_
        refine pw_aload_n (i := 0) C dX10_beginTerm_41 rfl rfl (Or.inr ⟨_, rfl⟩) ?_
        refine pw_get (j := 1) C cl_X10 fl_X10_14 (by decide) rfl h0 rfl dX10_beginTerm_42 ?_
        refine pw_stk (st' := [.ref (B 1), .ref (B 0), .ref b, .ref b]) rfl ?_
        refine pw_iload_n (i := 1) C dX10_beginTerm_45 rfl rfl ?_
        have g_12 := m1 o
        refine pw_iald C l1 ⟨by omega, by omega, by omega⟩ dX10_beginTerm_46 ?_
        have g_13 := m0 (fR o)
        refine pw_iald C l0 ⟨by omega, by omega, by omega⟩ dX10_beginTerm_47 ?_
        refine pw_callV (As := [.int (iZ (fL (fR o)))]) (st := [.ref b]) C (m_X10_constantOf g l h0 hR h7 h10 hK hc2.1 (by omega)) my_X10_constantOf ml_X10_319 (pw_rec.of C h0 cl_X10.1) rfl ⟨Nat.le_of_ble_eq_true rfl, Nat.le_of_ble_eq_true rfl⟩ ⟨by (try dsimp only); omega, by (try dsimp only); omega⟩ rfl (Nat.le_of_ble_eq_true rfl) dX10_beginTerm_48 ?_
        rintro _ w_26 ⟨z_14, t_15, n_16, sN_17, Z_18, rfl, e_19, R_20, x_21, hn_22, hs_23, hZ_24, z_14v, o_25⟩
        have x_211 := x_21.1
        have R_20n := R_20.n
        have v_27 := Vl.ext ho x_21
        have v_28 := Vl.ext hcc.1 x_21
        have v_29 := Vl.ext hcc.2 x_21
        have v_30 := Vl.ext hc2.1 x_21
        have K_31 := RK.ext hK x_21
        have z_14r := Vl.rg R_20 z_14v
        refine pw_stk (st' := [.int (iZ z_14), .ref b]) rfl ?_
        have hk47 := ((o_25 1047 (by omega))).trans hB.2.2.2.1
        refine pw_callV (As := [.int (iZ z_14)]) (st := []) C (m_X10_build g l e_19 (v := v1) (by exact h47) hk47 hB.2.2.2.2.2.2.2 (c0 := z_14) (by omega)) my_X10_build ml_X10_316 (pw_rec.of C e_19 cl_X10.1) rfl ⟨Nat.le_of_ble_eq_true rfl, Nat.le_of_ble_eq_true rfl⟩ ⟨by (try dsimp only); omega, by (try dsimp only); omega⟩ rfl (Nat.le_of_ble_eq_true rfl) dX10_beginTerm_51 ?_
        rintro _ w_32 ⟨rfl, e_33, f_34, o_35⟩
        refine pw_stk (st' := []) rfl ?_
        refine pw_iconst C dX10_beginTerm_54 ?_
        have R_36 := R_20.same (w' := w_32) (fun k hk => (o_35 k (by omega)))
        have hbg : bgO T1 X = true := by unfold bgO; rw [hqq, Bool.true_or, Bool.or_true]
        have hnc : isCl X = false := by unfold isCl; rw [decide_eq_false (p := obCar X ≠ oQuote) (fun q => q hq), Bool.and_false]
        exact pw_zret C hr (by decide +kernel) dX10_beginTerm_55 ⟨by rw [hbg]; rfl, t_15, n_16, sN_17, Z_18, R_36, x_21, by omega, by omega, fun j j0 j1 => (hZ_24 j j0 j1), fun k hk => (o_35 k (by omega)).trans (o_25 k (by omega)), by rw [if_neg (by rw [hbg]; decide), if_neg (by rw [hnc]; decide)]; exact ⟨z_14, by rw [e_33, ← h45]; rfl, ⟨((o_35 1043 (by omega)).trans (o_25 1043 (by omega))).trans hB.1, ((o_35 1044 (by omega)).trans (o_25 1044 (by omega))).trans hB.2.1, ((o_35 1045 (by omega)).trans (o_25 1045 (by omega))).trans hB.2.2.1, f_34, hB.2.2.2.2.1, hB.2.2.2.2.2.1, hB.2.2.2.2.2.2.1, upz_inI hB.2.2.2.2.2.2.2 (by omega)⟩, by rw [← cn_pl hqq]; exact z_14v⟩⟩
      · refine pw_iconst C dX10_beginTerm_33 ?_
        have hbg : bgO T1 X = false := by unfold bgO; rw [hp, h_11, decide_eq_false (p := obCar X ≠ oQuote) (fun q => q hq)]; rfl
        exact pw_zret C hr (by decide +kernel) dX10_beginTerm_34 ⟨by rw [hbg]; rfl, t, n, sN, fZ, hR, Ext.rf, by omega, Nat.le_refl _, fun _ _ _ => rfl, fun _ _ => rfl, by rw [if_pos hbg]; exact ⟨by rw [← h7, ← h10, ← h45, ← h47]; exact h0, hB⟩⟩
  · have hp := h_1
    refine pw_aload_n (i := 0) C dX10_beginTerm_8 rfl rfl (Or.inr ⟨_, rfl⟩) ?_
    refine pw_iload_n (i := 1) C dX10_beginTerm_9 rfl rfl ?_
    have hk47 := hB.2.2.2.1
    refine pw_callV (As := [.int (iZ o)]) (st := []) C (m_X10_build g l h0 (v := v1) (by exact h47) hk47 hB.2.2.2.2.2.2.2 (c0 := o) (by omega)) my_X10_build ml_X10_316 (pw_rec.of C h0 cl_X10.1) rfl ⟨Nat.le_of_ble_eq_true rfl, Nat.le_of_ble_eq_true rfl⟩ ⟨by (try dsimp only); omega, by (try dsimp only); omega⟩ rfl (Nat.le_of_ble_eq_true rfl) dX10_beginTerm_10 ?_
    rintro _ w_37 ⟨rfl, e_38, f_39, o_40⟩
    refine pw_stk (st' := []) rfl ?_
    refine pw_iconst C dX10_beginTerm_13 ?_
    have R_41 := hR.same (w' := w_37) (fun k hk => (o_40 k (by omega)))
    have hbg : bgO T1 X = true := by unfold bgO; rw [hp]; rfl
    have hnc : isCl X = false := by unfold isCl; rw [hp]; rfl
    exact pw_zret C hr (by decide +kernel) dX10_beginTerm_14 ⟨by rw [hbg]; rfl, t, n, sN, fZ, R_41, Ext.rf, by omega, by omega, fun _ _ _ => rfl, fun k hk => (o_40 k (by omega)), by rw [if_neg (by rw [hbg]; decide), if_neg (by rw [hnc]; decide)]; exact ⟨o, by rw [e_38, ← h45, ← h7, ← h10]; rfl, ⟨((o_40 1043 (by omega))).trans hB.1, ((o_40 1044 (by omega))).trans hB.2.1, ((o_40 1045 (by omega))).trans hB.2.2.1, f_39, hB.2.2.2.2.1, hB.2.2.2.2.2.1, hB.2.2.2.2.2.2.1, upz_inI hB.2.2.2.2.2.2.2 (by omega)⟩, by rw [show (pl2 X).1 = X from by cases X <;> first | rfl | cases hp]; exact ho⟩⟩

