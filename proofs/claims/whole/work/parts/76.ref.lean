set_option maxRecDepth 100000 in
set_option maxHeartbeats 4000000 in
/-- isVariable -/
theorem m_X10_isVariable (g : pw_P) (l : Launch) {w : pw_W} {b : Nat} {B : Nat → Nat} {x : Nat → Int} (h0 : w 1000 = (b, some (mdE B x))) {t : Int → Ob} {n : Int} {sN : Nat} {fZ : Int → Int} (hR : RS g w B t n sN fZ) (h7 : x 7 = n) (h10 : x 10 = ((sN : Nat) : Int)) (hK : RK t n) {o : Int} {X : Ob} (ho : Vl t n o X) : pw_M g l yX10_isVariable cX10_isVariable 2 (some .boolean) { frames := 1, cells := 0, slots := 0, locals := 21 } [.ref b, .int (iZ o)] w (fun r w' => w = w' ∧ r = some (.int (iZ (b2i (obV X))))) := by
  refine pw_M.of (by decide) (Nat.le_of_ble_eq_true rfl) rfl ?_
  intro p e s m args below meth c C hr hn
  have hRn := hR.n
  have hor := Vl.rg hR ho
  refine pw_aload_n (i := 0) C dX10_isVariable_0 rfl rfl (Or.inr ⟨_, rfl⟩) ?_
  refine pw_iload_n (i := 1) C dX10_isVariable_1 rfl rfl ?_
  refine pw_callV (As := [.int (iZ o)]) (st := []) C (m_X10_isSymbol g l h0 hR h7 h10 ho) my_X10_isSymbol ml_X10_268 (pw_rec.of C h0 cl_X10.1) rfl ⟨Nat.le_of_ble_eq_true rfl, Nat.le_of_ble_eq_true rfl⟩ ⟨by (try dsimp only); omega, by (try dsimp only); omega⟩ rfl (Nat.le_of_ble_eq_true rfl) dX10_isVariable_2 ?_
  rintro _ _ ⟨rfl, rfl⟩
  refine pw_stk (st' := [.int (iZ (b2i (obS X)))]) rfl ?_
  refine pw_if_eqB (tgt := 21) C dX10_isVariable_5 (by decide) (fun h_1 => ?_) (fun h_1 => ?_)
  · refine pw_iconst C dX10_isVariable_21 ?_
    exact pw_zret C hr (by decide +kernel) dX10_isVariable_22 ⟨rfl, by rw [show obV X = false from by unfold obV; rw [h_1]; rfl]; rfl⟩
  · have hS := h_1
    refine pw_iload_n (i := 1) C dX10_isVariable_8 rfl rfl ?_
    refine pw_if_eq (tgt := 21) C (by omega) dX10_isVariable_9 (by decide) (fun h_2 => ?_) (fun h_2 => ?_)
    · refine pw_iconst C dX10_isVariable_21 ?_
      exact pw_zret C hr (by decide +kernel) dX10_isVariable_22 ⟨rfl, by rw [show obV X = false from by unfold obV; rw [decide_eq_false (p := X ≠ oNil) (fun q => q ((RS.inj hR ho hK.nil).mp (by omega))), Bool.false_and, Bool.and_false]]; rfl⟩
    · refine pw_iload_n (i := 1) C dX10_isVariable_12 rfl rfl ?_
      refine pw_iconst C dX10_isVariable_13 ?_
      refine pw_icmp_eq (tgt := 21) C (by omega) (by omega) dX10_isVariable_14 (by decide) (fun h_3 => ?_) (fun h_3 => ?_)
      · refine pw_iconst C dX10_isVariable_21 ?_
        exact pw_zret C hr (by decide +kernel) dX10_isVariable_22 ⟨rfl, by rw [show obV X = false from by unfold obV; rw [decide_eq_false (p := X ≠ oT) (fun q => q ((RS.inj hR ho (hK.v 1 (by decide))).mp (by omega))), Bool.and_false, Bool.and_false]]; rfl⟩
      · refine pw_iconst C dX10_isVariable_17 ?_
        refine pw_goto (tgt := 22) C dX10_isVariable_18 (by decide) ?_
        exact pw_zret C hr (by decide +kernel) dX10_isVariable_22 ⟨rfl, by rw [show obV X = true from by unfold obV; rw [hS, decide_eq_true (p := X ≠ oNil) (fun q => absurd ((RS.inj hR ho hK.nil).mpr q) (by omega)), decide_eq_true (p := X ≠ oT) (fun q => absurd ((RS.inj hR ho (hK.v 1 (by decide))).mpr q) (by omega))]; rfl]; rfl⟩

def isCn (x : Ob) : Bool := isPc x || obQ x
theorem obLen_rg {g : pw_P} {w : pw_W} {B : Nat → Nat} {t : Int → Ob} {n o : Int} {s : Nat} {fZ : Int → Int} {X : Ob} (h : RS g w B t n s fZ) (ho : Vl t n o X) : -1 ≤ obLen X ∧ obLen X < 40000 := by
  refine ⟨obLen_ge X, ?_⟩
  have h1 := obLen_le_ht X
  have hn := h.n
  obtain ⟨fL, fR, fN, fH, fV, fD, fM, fE, a0, a1, a2, a3, a4, a5, a6, a8, a9, -, -, -, -, hC⟩ := h
  have := (hC.ht _ o rfl ho.1 ho.2.1).1
  rw [ho.2.2] at this
  have := ho.2.1
  omega
set_option maxRecDepth 100000 in
set_option maxHeartbeats 4000000 in
/-- isConstant -/
theorem m_X10_isConstant (g : pw_P) (l : Launch) {w : pw_W} {b : Nat} {B : Nat → Nat} {x : Nat → Int} (h0 : w 1000 = (b, some (mdE B x))) {t : Int → Ob} {n : Int} {sN : Nat} {fZ : Int → Int} (hR : RS g w B t n sN fZ) (h7 : x 7 = n) (h10 : x 10 = ((sN : Nat) : Int)) (hK : RK t n) {o : Int} {X : Ob} (ho : Vl t n o X) : pw_M g l yX10_isConstant cX10_isConstant 2 (some .boolean) { frames := 2, cells := 0, slots := 0, locals := 42 } [.ref b, .int (iZ o)] w (fun r w' => w = w' ∧ r = some (.int (iZ (b2i (isCn X))))) := by
  refine pw_M.of (by decide) (Nat.le_of_ble_eq_true rfl) rfl ?_
  intro p e s m args below meth c C hr hn
  have hRn := hR.n
  have hor := Vl.rg hR ho
  refine pw_aload_n (i := 0) C dX10_isConstant_0 rfl rfl (Or.inr ⟨_, rfl⟩) ?_
  refine pw_iload_n (i := 1) C dX10_isConstant_1 rfl rfl ?_
  refine pw_callV (As := [.int (iZ o)]) (st := []) C (m_X10_isNatural g l h0 hR h7 h10 ho) my_X10_isNatural ml_X10_289 (pw_rec.of C h0 cl_X10.1) rfl ⟨Nat.le_of_ble_eq_true rfl, Nat.le_of_ble_eq_true rfl⟩ ⟨by (try dsimp only); omega, by (try dsimp only); omega⟩ rfl (Nat.le_of_ble_eq_true rfl) dX10_isConstant_2 ?_
  rintro _ _ ⟨rfl, rfl⟩
  refine pw_stk (st' := [.int (iZ (b2i (obN X)))]) rfl ?_
  refine pw_if_neB (tgt := 25) C dX10_isConstant_5 (by decide) (fun h_1 => ?_) (fun h_1 => ?_)
  · refine pw_iconst C dX10_isConstant_25 ?_
    refine pw_goto (tgt := 30) C dX10_isConstant_26 (by decide) ?_
    exact pw_zret C hr (by decide +kernel) dX10_isConstant_30 ⟨rfl, by rw [show isCn X = true from by unfold isCn isPc; rw [h_1]; rfl]; rfl⟩
  · have hN := h_1
    refine pw_iload_n (i := 1) C dX10_isConstant_8 rfl rfl ?_
    refine pw_if_eq (tgt := 25) C (by omega) dX10_isConstant_9 (by decide) (fun h_2 => ?_) (fun h_2 => ?_)
    · refine pw_iconst C dX10_isConstant_25 ?_
      refine pw_goto (tgt := 30) C dX10_isConstant_26 (by decide) ?_
      exact pw_zret C hr (by decide +kernel) dX10_isConstant_30 ⟨rfl, by rw [show isCn X = true from by unfold isCn isPc; rw [decide_eq_true (p := X = oNil ∨ X = oT) (Or.inl ((RS.inj hR ho hK.nil).mp (by omega))), Bool.or_true]; rfl]; rfl⟩
    · refine pw_iload_n (i := 1) C dX10_isConstant_12 rfl rfl ?_
      refine pw_iconst C dX10_isConstant_13 ?_
      refine pw_icmp_eq (tgt := 25) C (by omega) (by omega) dX10_isConstant_14 (by decide) (fun h_3 => ?_) (fun h_3 => ?_)
      · refine pw_iconst C dX10_isConstant_25 ?_
        refine pw_goto (tgt := 30) C dX10_isConstant_26 (by decide) ?_
        exact pw_zret C hr (by decide +kernel) dX10_isConstant_30 ⟨rfl, by rw [show isCn X = true from by unfold isCn isPc; rw [decide_eq_true (p := X = oNil ∨ X = oT) (Or.inr ((RS.inj hR ho (hK.v 1 (by decide))).mp (by omega))), Bool.or_true]; rfl]; rfl⟩
      · refine pw_aload_n (i := 0) C dX10_isConstant_17 rfl rfl (Or.inr ⟨_, rfl⟩) ?_
        refine pw_iload_n (i := 1) C dX10_isConstant_18 rfl rfl ?_
        refine pw_callV (As := [.int (iZ o)]) (st := []) C (m_X10_isQuoted g l h0 hR h7 h10 hK ho) my_X10_isQuoted ml_X10_286 (pw_rec.of C h0 cl_X10.1) rfl ⟨Nat.le_of_ble_eq_true rfl, Nat.le_of_ble_eq_true rfl⟩ ⟨by (try dsimp only); omega, by (try dsimp only); omega⟩ rfl (Nat.le_of_ble_eq_true rfl) dX10_isConstant_19 ?_
        rintro _ _ ⟨rfl, rfl⟩
        refine pw_stk (st' := [.int (iZ (b2i (obQ X)))]) rfl ?_
        refine pw_if_eqB (tgt := 29) C dX10_isConstant_22 (by decide) (fun h_4 => ?_) (fun h_4 => ?_)
        · refine pw_iconst C dX10_isConstant_29 ?_
          exact pw_zret C hr (by decide +kernel) dX10_isConstant_30 ⟨rfl, by rw [show isCn X = false from by unfold isCn isPc; rw [h_4, hN, decide_eq_false (fun q => q.elim (fun q => absurd ((RS.inj hR ho hK.nil).mpr q) (by omega)) (fun q => absurd ((RS.inj hR ho (hK.v 1 (by decide))).mpr q) (by omega)))]; rfl]; rfl⟩
        · refine pw_iconst C dX10_isConstant_25 ?_
          refine pw_goto (tgt := 30) C dX10_isConstant_26 (by decide) ?_
          exact pw_zret C hr (by decide +kernel) dX10_isConstant_30 ⟨rfl, by rw [show isCn X = true from by unfold isCn; rw [h_4, Bool.or_true]]; rfl⟩

set_option maxRecDepth 100000 in
set_option maxHeartbeats 4000000 in
/-- isCall -/
theorem m_X10_isCall (g : pw_P) (l : Launch) {w : pw_W} {b : Nat} {B : Nat → Nat} {x : Nat → Int} (h0 : w 1000 = (b, some (mdE B x))) {t : Int → Ob} {n : Int} {sN : Nat} {fZ : Int → Int} (hR : RS g w B t n sN fZ) (h7 : x 7 = n) (h10 : x 10 = ((sN : Nat) : Int)) (hK : RK t n) {o : Int} {X : Ob} (ho : Vl t n o X) : pw_M g l yX10_isCall cX10_isCall 2 (some .boolean) { frames := 1, cells := 0, slots := 0, locals := 21 } [.ref b, .int (iZ o)] w (fun r w' => w = w' ∧ r = some (.int (iZ (b2i (isCl X))))) := by
  refine pw_M.of (by decide) (Nat.le_of_ble_eq_true rfl) rfl ?_
  intro p e s m args below meth c C hr hn
  obtain ⟨fL, fR, fH, fV, l0, l1, l4, l5, ⟨m0, m1, m4, m5⟩, hln⟩ := RS.lens hR
  have hRn := hR.n
  have hor := Vl.rg hR ho
  refine pw_aload_n (i := 0) C dX10_isCall_0 rfl rfl (Or.inr ⟨_, rfl⟩) ?_
  refine pw_iload_n (i := 1) C dX10_isCall_1 rfl rfl ?_
  refine pw_callV (As := [.int (iZ o)]) (st := []) C (m_X10_isPair g l h0 hR h7 h10 ho) my_X10_isPair ml_X10_195 (pw_rec.of C h0 cl_X10.1) rfl ⟨Nat.le_of_ble_eq_true rfl, Nat.le_of_ble_eq_true rfl⟩ ⟨by (try dsimp only); omega, by (try dsimp only); omega⟩ rfl (Nat.le_of_ble_eq_true rfl) dX10_isCall_2 ?_
  rintro _ _ ⟨rfl, rfl⟩
  refine pw_stk (st' := [.int (iZ (b2i (obP X)))]) rfl ?_
  refine pw_if_eqB (tgt := 22) C dX10_isCall_5 (by decide) (fun h_1 => ?_) (fun h_1 => ?_)
  · refine pw_iconst C dX10_isCall_22 ?_
    exact pw_zret C hr (by decide +kernel) dX10_isCall_23 ⟨rfl, by rw [show isCl X = false from by unfold isCl; rw [h_1]; rfl]; rfl⟩
  · have hp := h_1
    have hcc := (hln o X ho).1 hp
    have hrr1 := Vl.rg hR hcc.1
    have hrr2 := Vl.rg hR hcc.2
    refine pw_aload_n (i := 0) C dX10_isCall_8 rfl rfl (Or.inr ⟨_, rfl⟩) ?_
    refine pw_get (j := 0) C cl_X10 fl_X10_8 (by decide) rfl h0 rfl dX10_isCall_9 ?_
    refine pw_stk (st' := [.ref (B 0)]) rfl ?_
    refine pw_iload_n (i := 1) C dX10_isCall_12 rfl rfl ?_
    have g_2 := m0 o
    refine pw_iald C l0 ⟨by omega, by omega, by omega⟩ dX10_isCall_13 ?_
    refine pw_iconst C dX10_isCall_14 ?_
    refine pw_icmp_eq (tgt := 22) C (by omega) (by omega) dX10_isCall_15 (by decide) (fun h_3 => ?_) (fun h_3 => ?_)
    · refine pw_iconst C dX10_isCall_22 ?_
      exact pw_zret C hr (by decide +kernel) dX10_isCall_23 ⟨rfl, by rw [show isCl X = false from by unfold isCl; rw [decide_eq_false (p := obCar X ≠ oQuote) (fun q => q ((RS.inj hR hcc.1 (hK.v 2 (by decide))).mp (by omega))), Bool.and_false]]; rfl⟩
    · refine pw_iconst C dX10_isCall_18 ?_
      refine pw_goto (tgt := 23) C dX10_isCall_19 (by decide) ?_
      exact pw_zret C hr (by decide +kernel) dX10_isCall_23 ⟨rfl, by rw [show isCl X = true from by unfold isCl; rw [hp, decide_eq_true (p := obCar X ≠ oQuote) (fun q => absurd ((RS.inj hR hcc.1 (hK.v 2 (by decide))).mpr q) (by omega))]; rfl]; rfl⟩

set_option maxRecDepth 100000 in
set_option maxHeartbeats 4000000 in
/-- isCallOf -/
theorem m_X10_isCallOf (g : pw_P) (l : Launch) {w : pw_W} {b : Nat} {B : Nat → Nat} {x : Nat → Int} (h0 : w 1000 = (b, some (mdE B x))) {t : Int → Ob} {n : Int} {sN : Nat} {fZ : Int → Int} (hR : RS g w B t n sN fZ) (h7 : x 7 = n) (h10 : x 10 = ((sN : Nat) : Int)) (hK : RK t n) {o : Int} {X : Ob} (ho : Vl t n o X) {f0 : Int} {N : Ob} (hf : Vl t n f0 N) : pw_M g l yX10_isCallOf cX10_isCallOf 3 (some .boolean) { frames := 1, cells := 0, slots := 0, locals := 21 } [.ref b, .int (iZ o), .int (iZ f0)] w (fun r w' => w = w' ∧ r = some (.int (iZ (b2i (obP X && decide (obCar X = N)))))) := by
  refine pw_M.of (by decide) (Nat.le_of_ble_eq_true rfl) rfl ?_
  intro p e s m args below meth c C hr hn
  obtain ⟨fL, fR, fH, fV, l0, l1, l4, l5, ⟨m0, m1, m4, m5⟩, hln⟩ := RS.lens hR
  have hRn := hR.n
  have hor := Vl.rg hR ho
  have hfr := Vl.rg hR hf
  refine pw_aload_n (i := 0) C dX10_isCallOf_0 rfl rfl (Or.inr ⟨_, rfl⟩) ?_
  refine pw_iload_n (i := 1) C dX10_isCallOf_1 rfl rfl ?_
  refine pw_callV (As := [.int (iZ o)]) (st := []) C (m_X10_isPair g l h0 hR h7 h10 ho) my_X10_isPair ml_X10_195 (pw_rec.of C h0 cl_X10.1) rfl ⟨Nat.le_of_ble_eq_true rfl, Nat.le_of_ble_eq_true rfl⟩ ⟨by (try dsimp only); omega, by (try dsimp only); omega⟩ rfl (Nat.le_of_ble_eq_true rfl) dX10_isCallOf_2 ?_
  rintro _ _ ⟨rfl, rfl⟩
  refine pw_stk (st' := [.int (iZ (b2i (obP X)))]) rfl ?_
  refine pw_if_eqB (tgt := 22) C dX10_isCallOf_5 (by decide) (fun h_1 => ?_) (fun h_1 => ?_)
  · refine pw_iconst C dX10_isCallOf_22 ?_
    exact pw_zret C hr (by decide +kernel) dX10_isCallOf_23 ⟨rfl, by rw [show (obP X && decide (obCar X = N)) = false from by rw [h_1]; rfl]; rfl⟩
  · have hp := h_1
    have hcc := (hln o X ho).1 hp
    have hrr1 := Vl.rg hR hcc.1
    have hrr2 := Vl.rg hR hcc.2
    refine pw_aload_n (i := 0) C dX10_isCallOf_8 rfl rfl (Or.inr ⟨_, rfl⟩) ?_
    refine pw_get (j := 0) C cl_X10 fl_X10_8 (by decide) rfl h0 rfl dX10_isCallOf_9 ?_
    refine pw_stk (st' := [.ref (B 0)]) rfl ?_
    refine pw_iload_n (i := 1) C dX10_isCallOf_12 rfl rfl ?_
    have g_2 := m0 o
    refine pw_iald C l0 ⟨by omega, by omega, by omega⟩ dX10_isCallOf_13 ?_
    refine pw_iload_n (i := 2) C dX10_isCallOf_14 rfl rfl ?_
    refine pw_icmp_ne (tgt := 22) C (by omega) (by omega) dX10_isCallOf_15 (by decide) (fun h_3 => ?_) (fun h_3 => ?_)
    · refine pw_iconst C dX10_isCallOf_22 ?_
      exact pw_zret C hr (by decide +kernel) dX10_isCallOf_23 ⟨rfl, by rw [show (obP X && decide (obCar X = N)) = false from by rw [decide_eq_false (fun q => absurd ((RS.inj hR hcc.1 hf).mpr q) (by omega)), Bool.and_false]]; rfl⟩
    · refine pw_iconst C dX10_isCallOf_18 ?_
      refine pw_goto (tgt := 23) C dX10_isCallOf_19 (by decide) ?_
      exact pw_zret C hr (by decide +kernel) dX10_isCallOf_23 ⟨rfl, by rw [show (obP X && decide (obCar X = N)) = true from by rw [hp, decide_eq_true ((RS.inj hR hcc.1 hf).mp (by omega))]; rfl]; rfl⟩

def cnO (x : Ob) : Ob := if isPc x then x else .add oQuote (.add x oNil)
set_option maxRecDepth 100000 in
set_option maxHeartbeats 4000000 in
/-- constantOf -/
theorem m_X10_constantOf (g : pw_P) (l : Launch) {w : pw_W} {b : Nat} {B : Nat → Nat} {x : Nat → Int} (h0 : w 1000 = (b, some (mdE B x))) {t : Int → Ob} {n : Int} {sN : Nat} {fZ : Int → Int} (hR : RS g w B t n sN fZ) (h7 : x 7 = n) (h10 : x 10 = ((sN : Nat) : Int)) (hK : RK t n) {o : Int} {X : Ob} (ho : Vl t n o X) (hcap : n + 2 ≤ 40000) : pw_M g l yX10_constantOf cX10_constantOf 2 (some .int) { frames := 4, cells := 0, slots := 0, locals := 90 } [.ref b, .int (iZ o)] w (fun r w' => rNc g w w' b B x t n sN 0 2 fZ (cnO X) r) := by
  refine pw_M.of (by decide) (Nat.le_of_ble_eq_true rfl) rfl ?_
  intro p e s m args below meth c C hr hn
  have hRn := hR.n
  have hor := Vl.rg hR ho
  refine pw_aload_n (i := 0) C dX10_constantOf_0 rfl rfl (Or.inr ⟨_, rfl⟩) ?_
  refine pw_iload_n (i := 1) C dX10_constantOf_1 rfl rfl ?_
  refine pw_callV (As := [.int (iZ o)]) (st := []) C (m_X10_isNatural g l h0 hR h7 h10 ho) my_X10_isNatural ml_X10_289 (pw_rec.of C h0 cl_X10.1) rfl ⟨Nat.le_of_ble_eq_true rfl, Nat.le_of_ble_eq_true rfl⟩ ⟨by (try dsimp only); omega, by (try dsimp only); omega⟩ rfl (Nat.le_of_ble_eq_true rfl) dX10_constantOf_2 ?_
  rintro _ _ ⟨rfl, rfl⟩
  refine pw_stk (st' := [.int (iZ (b2i (obN X)))]) rfl ?_
  refine pw_if_neB (tgt := 17) C dX10_constantOf_5 (by decide) (fun h_1 => ?_) (fun h_1 => ?_)
  · refine pw_iload_n (i := 1) C dX10_constantOf_17 rfl rfl ?_
    refine pw_goto (tgt := 27) C dX10_constantOf_18 (by decide) ?_
    exact pw_iret C hr dX10_constantOf_27 ⟨o, t, n, sN, fZ, rfl, by rw [← h7, ← h10]; exact h0, hR, Ext.rf, by omega, by omega, fun _ _ _ => rfl, by unfold cnO; rw [if_pos (by unfold isPc; rw [h_1]; rfl)]; exact ho, fun _ _ => rfl⟩
  · have hN := h_1
    refine pw_iload_n (i := 1) C dX10_constantOf_8 rfl rfl ?_
    refine pw_if_eq (tgt := 17) C (by omega) dX10_constantOf_9 (by decide) (fun h_2 => ?_) (fun h_2 => ?_)
    · refine pw_iload_n (i := 1) C dX10_constantOf_17 rfl rfl ?_
      refine pw_goto (tgt := 27) C dX10_constantOf_18 (by decide) ?_
      exact pw_iret C hr dX10_constantOf_27 ⟨o, t, n, sN, fZ, rfl, by rw [← h7, ← h10]; exact h0, hR, Ext.rf, by omega, by omega, fun _ _ _ => rfl, by unfold cnO; rw [if_pos (by unfold isPc; rw [decide_eq_true (p := X = oNil ∨ X = oT) (Or.inl ((RS.inj hR ho hK.nil).mp (by omega))), Bool.or_true])]; exact ho, fun _ _ => rfl⟩
    · refine pw_iload_n (i := 1) C dX10_constantOf_12 rfl rfl ?_
      refine pw_iconst C dX10_constantOf_13 ?_
      refine pw_icmp_ne (tgt := 21) C (by omega) (by omega) dX10_constantOf_14 (by decide) (fun h_3 => ?_) (fun h_3 => ?_)
      · have hpc : isPc X = false := by unfold isPc; rw [hN, decide_eq_false (fun q => q.elim (fun q => absurd ((RS.inj hR ho hK.nil).mpr q) (by omega)) (fun q => absurd ((RS.inj hR ho (hK.v 1 (by decide))).mpr q) (by omega)))]; rfl
        refine pw_aload_n (i := 0) C dX10_constantOf_21 rfl rfl (Or.inr ⟨_, rfl⟩) ?_
        refine pw_iconst C dX10_constantOf_22 ?_
        refine pw_iload_n (i := 1) C dX10_constantOf_23 rfl rfl ?_
        refine pw_callV (As := [.int (iZ 2), .int (iZ o)]) (st := []) C (m_X10_list2 g l h0 hR h7 h10 hK (RK.v hK 2 (by decide)) ho (by omega)) my_X10_list2 ml_X10_189 (pw_rec.of C h0 cl_X10.1) rfl ⟨Nat.le_of_ble_eq_true rfl, Nat.le_of_ble_eq_true rfl⟩ ⟨by (try dsimp only); omega, by (try dsimp only); omega⟩ rfl (Nat.le_of_ble_eq_true rfl) dX10_constantOf_24 ?_
        rintro _ w_16 ⟨z_4, t_5, n_6, sN_7, Z_8, rfl, e_9, R_10, x_11, hn_12, hs_13, hZ_14, z_4v, o_15⟩
        have x_111 := x_11.1
        have R_10n := R_10.n
        have v_17 := Vl.ext ho x_11
        have K_18 := RK.ext hK x_11
        have z_4r := Vl.rg R_10 z_4v
        refine pw_stk (st' := [.int (iZ z_4)]) rfl ?_
        exact pw_iret C hr dX10_constantOf_27 ⟨z_4, t_5, n_6, sN_7, Z_8, rfl, e_9, R_10, x_11, by omega, by omega, fun j j0 j1 => (hZ_14 j j0 j1), by unfold cnO; rw [if_neg (by rw [hpc]; decide)]; exact z_4v, fun k hk => (o_15 k (by omega))⟩
      · refine pw_iload_n (i := 1) C dX10_constantOf_17 rfl rfl ?_
        refine pw_goto (tgt := 27) C dX10_constantOf_18 (by decide) ?_
        exact pw_iret C hr dX10_constantOf_27 ⟨o, t, n, sN, fZ, rfl, by rw [← h7, ← h10]; exact h0, hR, Ext.rf, by omega, by omega, fun _ _ _ => rfl, by unfold cnO; rw [if_pos (by unfold isPc; rw [decide_eq_true (p := X = oNil ∨ X = oT) (Or.inr ((RS.inj hR ho (hK.v 1 (by decide))).mp (by omega))), Bool.or_true])]; exact ho, fun _ _ => rfl⟩

def vlO (x : Ob) : Ob := if obP x then obCar (obCdr x) else x
set_option maxRecDepth 100000 in
set_option maxHeartbeats 4000000 in
/-- valueOf -/
theorem m_X10_valueOf (g : pw_P) (l : Launch) {w : pw_W} {b : Nat} {B : Nat → Nat} {x : Nat → Int} (h0 : w 1000 = (b, some (mdE B x))) {t : Int → Ob} {n : Int} {sN : Nat} {fZ : Int → Int} (hR : RS g w B t n sN fZ) (h7 : x 7 = n) (h10 : x 10 = ((sN : Nat) : Int)) (hK : RK t n) {o : Int} {X : Ob} (ho : Vl t n o X) (hq2 : obP X = true → obP (obCdr X) = true) : pw_M g l yX10_valueOf cX10_valueOf 2 (some .int) { frames := 1, cells := 0, slots := 0, locals := 21 } [.ref b, .int (iZ o)] w (fun r w' => w = w' ∧ ∃ z, r = some (.int (iZ z)) ∧ Vl t n z (vlO X)) := by
  refine pw_M.of (by decide) (Nat.le_of_ble_eq_true rfl) rfl ?_
  intro p e s m args below meth c C hr hn
  obtain ⟨fL, fR, fH, fV, l0, l1, l4, l5, ⟨m0, m1, m4, m5⟩, hln⟩ := RS.lens hR
  have hRn := hR.n
  have hor := Vl.rg hR ho
  refine pw_aload_n (i := 0) C dX10_valueOf_0 rfl rfl (Or.inr ⟨_, rfl⟩) ?_
  refine pw_iload_n (i := 1) C dX10_valueOf_1 rfl rfl ?_
  refine pw_callV (As := [.int (iZ o)]) (st := []) C (m_X10_isPair g l h0 hR h7 h10 ho) my_X10_isPair ml_X10_195 (pw_rec.of C h0 cl_X10.1) rfl ⟨Nat.le_of_ble_eq_true rfl, Nat.le_of_ble_eq_true rfl⟩ ⟨by (try dsimp only); omega, by (try dsimp only); omega⟩ rfl (Nat.le_of_ble_eq_true rfl) dX10_valueOf_2 ?_
  rintro _ _ ⟨rfl, rfl⟩
  refine pw_stk (st' := [.int (iZ (b2i (obP X)))]) rfl ?_
  refine pw_if_eqB (tgt := 22) C dX10_valueOf_5 (by decide) (fun h_1 => ?_) (fun h_1 => ?_)
  · refine pw_iload_n (i := 1) C dX10_valueOf_22 rfl rfl ?_
    exact pw_iret C hr dX10_valueOf_23 ⟨rfl, o, rfl, by unfold vlO; rw [if_neg (by rw [h_1]; decide)]; exact ho⟩
  · have hp := h_1
    have hcc := (hln o X ho).1 hp
    have hrr1 := Vl.rg hR hcc.1
    have hrr2 := Vl.rg hR hcc.2
    have hc2 := (hln _ _ hcc.2).1 (hq2 hp)
    have hrr3 := Vl.rg hR hc2.1
    refine pw_aload_n (i := 0) C dX10_valueOf_8 rfl rfl (Or.inr ⟨_, rfl⟩) ?_
    refine pw_get (j := 0) C cl_X10 fl_X10_8 (by decide) rfl h0 rfl dX10_valueOf_9 ?_
    refine pw_stk (st' := [.ref (B 0)]) rfl ?_
    refine pw_aload_n (i := 0) C dX10_valueOf_12 rfl rfl (Or.inr ⟨_, rfl⟩) ?_
    refine pw_get (j := 1) C cl_X10 fl_X10_14 (by decide) rfl h0 rfl dX10_valueOf_13 ?_
    refine pw_stk (st' := [.ref (B 1), .ref (B 0)]) rfl ?_
    refine pw_iload_n (i := 1) C dX10_valueOf_16 rfl rfl ?_
    have g_2 := m1 o
    refine pw_iald C l1 ⟨by omega, by omega, by omega⟩ dX10_valueOf_17 ?_
    have g_3 := m0 (fR o)
    refine pw_iald C l0 ⟨by omega, by omega, by omega⟩ dX10_valueOf_18 ?_
    refine pw_goto (tgt := 23) C dX10_valueOf_19 (by decide) ?_
    exact pw_iret C hr dX10_valueOf_23 ⟨rfl, _, rfl, by unfold vlO; rw [if_pos hp]; exact hc2.1⟩

theorem obLen_st {X : Ob} (hp : obP X = true) : (obLen (obCdr X) = -1 → obLen X = -1) ∧ (0 ≤ obLen (obCdr X) → obLen X = obLen (obCdr X) + 1) := by
  rw [obLen_p hp]
  exact ⟨fun e => by rw [if_pos e], fun e => by rw [if_neg (by omega)]⟩
theorem obLen_z {X : Ob} (hp : obP X = false) (hn : ¬ X = oNil) : obLen X = -1 := by
  have := obLen_ge X
  by_cases h : obLen X = -1
  · exact h
  · exact absurd (obLen_np hp (by omega)).1 hn
theorem RS.dn {g : pw_P} {w : pw_W} {B : Nat → Nat} {t : Int → Ob} {n : Int} {s : Nat} {fZ : Int → Int} (h : RS g w B t n s fZ) : ∃ fR : Int → Int, w 1002 = (B 1, some (AI g 40000 fR)) ∧ (∀ j, inI (fR j)) ∧ ∀ (o : Int) (X : Ob), Vl t n o X → obP X = true → fR o < o := by
  obtain ⟨fL, fR, fN, fH, fV, fD, fM, fE, a0, a1, a2, a3, a4, a5, a6, a8, a9, hu, -, -, -, hC⟩ := h
  refine ⟨fR, a1, hu.2.1, fun o X ho hp => ?_⟩
  obtain ⟨o0, o1, rfl⟩ := ho
  have hnd := hC.1 o o0 o1
  rw [hnd.p.1] at hp
  exact (hnd.pair (of_decide_eq_true hp)).2.2.1
theorem AI_inj {g : pw_P} {n : Nat} {f f' : Int → Int} (h : AI g n f = AI g n f') : ∀ j : Nat, iZ (f (j : Int)) = iZ (f' (j : Int)) := by
  unfold AI at h
  have := Sum.inl.inj h
  have h2 := (Prod.mk.inj (Prod.mk.inj this).2).2
  have h3 := Sum.inl.inj h2
  exact fun j => congrFun h3 j
set_option maxRecDepth 100000 in
set_option maxHeartbeats 4000000 in
/-- lengthOf -/
theorem m_X10_lengthOf (g : pw_P) (l : Launch) {w : pw_W} {b : Nat} {B : Nat → Nat} {x : Nat → Int} (h0 : w 1000 = (b, some (mdE B x))) {t : Int → Ob} {n : Int} {sN : Nat} {fZ : Int → Int} (hR : RS g w B t n sN fZ) (h7 : x 7 = n) (h10 : x 10 = ((sN : Nat) : Int)) (hK : RK t n) {o : Int} {X : Ob} (ho : Vl t n o X) : pw_M g l yX10_lengthOf cX10_lengthOf 4 (some .int) { frames := 1, cells := 0, slots := 0, locals := 21 } [.ref b, .int (iZ o)] w (fun r w' => w = w' ∧ r = some (.int (iZ (obLen X)))) := by
  refine pw_M.of (by decide) (Nat.le_of_ble_eq_true rfl) rfl ?_
  intro p e s m args below meth c C hr hn
  obtain ⟨fL, fR, fH, fV, l0, l1, l4, l5, ⟨m0, m1, m4, m5⟩, hln⟩ := RS.lens hR
  have hRn := hR.n
  have hor := Vl.rg hR ho
  have hdn : ∀ (k : Int) (Y : Ob), Vl t n k Y → obP Y = true → fR k < k := by
    intro k Y hy hp
    obtain ⟨fR2, e2, hu2, hd⟩ := RS.dn hR
    have h1 := hd k Y hy hp
    have h2 := AI_inj (Option.some.inj ((Prod.mk.inj (l1.symm.trans e2)).2)) k.toNat
    rw [show ((k.toNat : Nat) : Int) = k by have := hy.1; omega] at h2
    rw [(iz_eq (m1 k) (hu2 k)).mp h2]; exact h1
  have loop : ∀ (kk : Nat) (i k : Int) (Y : Ob), k.toNat ≤ kk → Vl t n k Y → (0 ≤ i ∧ i + k ≤ 40000) → ((obLen Y = -1 → obLen X = -1) ∧ ∀ m : Int, obLen Y = m → 0 ≤ m → obLen X = i + m) → pw_G g p l e { frames := 1, cells := 0, slots := 0, locals := 21 } s m args below meth c 4 (pw_Q g below (fun r w' => w = w' ∧ r = some (.int (iZ (obLen X)))) args s { frames := 1, cells := 0, slots := 0, locals := 21 }) 0 0 4 [(0, .ref b), (1, .int (iZ o)), (2, .int (iZ i)), (3, .int (iZ k))] [] w := by
    intro kk
    induction kk with
    | zero =>
      intro i k Y hk hy hi hq
      have hyr := Vl.rg hR hy
      refine pw_aload_n (i := 0) C dX10_lengthOf_4 rfl rfl (Or.inr ⟨_, rfl⟩) ?_
      refine pw_iload_n (i := 3) C dX10_lengthOf_5 rfl rfl ?_
      refine pw_callV (As := [.int (iZ k)]) (st := []) C (m_X10_isPair g l h0 hR h7 h10 hy) my_X10_isPair ml_X10_195 (pw_rec.of C h0 cl_X10.1) rfl ⟨Nat.le_of_ble_eq_true rfl, Nat.le_of_ble_eq_true rfl⟩ ⟨by (try dsimp only); omega, by (try dsimp only); omega⟩ rfl (Nat.le_of_ble_eq_true rfl) dX10_lengthOf_6 ?_
      rintro _ _ ⟨rfl, rfl⟩
      refine pw_stk (st' := [.int (iZ (b2i (obP Y)))]) rfl ?_
      refine pw_if_eqB (tgt := 25) C dX10_lengthOf_9 (by decide) (fun h_301 => ?_) (fun h_301 => ?_)
      · have hnp := h_301
        refine pw_iload_n (i := 3) C dX10_lengthOf_25 rfl rfl ?_
        refine pw_if_ne (tgt := 33) C (by omega) dX10_lengthOf_26 (by decide) (fun h_302 => ?_) (fun h_302 => ?_)
        · refine pw_iconst C dX10_lengthOf_33 ?_
          exact pw_iret C hr dX10_lengthOf_34 ⟨rfl, by rw [hq.1 (by exact obLen_z hnp (fun e => absurd ((RS.inj hR hy hK.nil).mpr e) (by omega)))]⟩
        · refine pw_iload_n (i := 2) C dX10_lengthOf_29 rfl rfl ?_
          refine pw_goto (tgt := 34) C dX10_lengthOf_30 (by decide) ?_
          exact pw_iret C hr dX10_lengthOf_34 ⟨rfl, by rw [hq.2 0 (by rw [show Y = oNil from (RS.inj hR hy hK.nil).mp (by omega)]; exact obLen_nil) (by omega)]; rw [Int.add_zero]⟩
      · have hp := h_301
        have hcc := (hln k Y hy).1 hp
        have hrr2 := Vl.rg hR hcc.2
        have hlt := hdn k Y hy hp
        refine pw_iinc (lv' := [(0, .ref b), (1, .int (iZ o)), (2, .int (iZ (i + 1))), (3, .int (iZ k))]) C dX10_lengthOf_12 rfl (by decide) rfl ?_
        refine pw_aload_n (i := 0) C dX10_lengthOf_15 rfl rfl (Or.inr ⟨_, rfl⟩) ?_
        refine pw_get (j := 1) C cl_X10 fl_X10_14 (by decide) rfl h0 rfl dX10_lengthOf_16 ?_
        refine pw_stk (st' := [.ref (B 1)]) rfl ?_
        refine pw_iload_n (i := 3) C dX10_lengthOf_19 rfl rfl ?_
        have g_303 := m1 k
        refine pw_iald C l1 ⟨by omega, by omega, by omega⟩ dX10_lengthOf_20 ?_
        refine pw_istore_n (i := 3) (lv' := [(0, .ref b), (1, .int (iZ o)), (2, .int (iZ (i + 1))), (3, .int (iZ (fR k)))]) C dX10_lengthOf_21 rfl (by decide) rfl ?_
        refine pw_goto (tgt := 4) C dX10_lengthOf_22 (by decide) ?_
        exfalso; omega
    | succ kk ih =>
      intro i k Y hk hy hi hq
      have hyr := Vl.rg hR hy
      refine pw_aload_n (i := 0) C dX10_lengthOf_4 rfl rfl (Or.inr ⟨_, rfl⟩) ?_
      refine pw_iload_n (i := 3) C dX10_lengthOf_5 rfl rfl ?_
      refine pw_callV (As := [.int (iZ k)]) (st := []) C (m_X10_isPair g l h0 hR h7 h10 hy) my_X10_isPair ml_X10_195 (pw_rec.of C h0 cl_X10.1) rfl ⟨Nat.le_of_ble_eq_true rfl, Nat.le_of_ble_eq_true rfl⟩ ⟨by (try dsimp only); omega, by (try dsimp only); omega⟩ rfl (Nat.le_of_ble_eq_true rfl) dX10_lengthOf_6 ?_
      rintro _ _ ⟨rfl, rfl⟩
      refine pw_stk (st' := [.int (iZ (b2i (obP Y)))]) rfl ?_
      refine pw_if_eqB (tgt := 25) C dX10_lengthOf_9 (by decide) (fun h_31 => ?_) (fun h_31 => ?_)
      · have hnp := h_31
        refine pw_iload_n (i := 3) C dX10_lengthOf_25 rfl rfl ?_
        refine pw_if_ne (tgt := 33) C (by omega) dX10_lengthOf_26 (by decide) (fun h_32 => ?_) (fun h_32 => ?_)
        · refine pw_iconst C dX10_lengthOf_33 ?_
          exact pw_iret C hr dX10_lengthOf_34 ⟨rfl, by rw [hq.1 (by exact obLen_z hnp (fun e => absurd ((RS.inj hR hy hK.nil).mpr e) (by omega)))]⟩
        · refine pw_iload_n (i := 2) C dX10_lengthOf_29 rfl rfl ?_
          refine pw_goto (tgt := 34) C dX10_lengthOf_30 (by decide) ?_
          exact pw_iret C hr dX10_lengthOf_34 ⟨rfl, by rw [hq.2 0 (by rw [show Y = oNil from (RS.inj hR hy hK.nil).mp (by omega)]; exact obLen_nil) (by omega)]; rw [Int.add_zero]⟩
      · have hp := h_31
        have hcc := (hln k Y hy).1 hp
        have hrr2 := Vl.rg hR hcc.2
        have hlt := hdn k Y hy hp
        refine pw_iinc (lv' := [(0, .ref b), (1, .int (iZ o)), (2, .int (iZ (i + 1))), (3, .int (iZ k))]) C dX10_lengthOf_12 rfl (by decide) rfl ?_
        refine pw_aload_n (i := 0) C dX10_lengthOf_15 rfl rfl (Or.inr ⟨_, rfl⟩) ?_
        refine pw_get (j := 1) C cl_X10 fl_X10_14 (by decide) rfl h0 rfl dX10_lengthOf_16 ?_
        refine pw_stk (st' := [.ref (B 1)]) rfl ?_
        refine pw_iload_n (i := 3) C dX10_lengthOf_19 rfl rfl ?_
        have g_33 := m1 k
        refine pw_iald C l1 ⟨by omega, by omega, by omega⟩ dX10_lengthOf_20 ?_
        refine pw_istore_n (i := 3) (lv' := [(0, .ref b), (1, .int (iZ o)), (2, .int (iZ (i + 1))), (3, .int (iZ (fR k)))]) C dX10_lengthOf_21 rfl (by decide) rfl ?_
        refine pw_goto (tgt := 4) C dX10_lengthOf_22 (by decide) ?_
        have hst := obLen_st hp
        exact ih (i + 1) _ (obCdr Y) (by omega) hcc.2 (by omega) ⟨fun e => hq.1 (hst.1 e), fun m e m0 => by rw [hq.2 (m + 1) (by rw [hst.2 (by omega), e]) (by omega)]; omega⟩
  refine pw_iconst C dX10_lengthOf_0 ?_
  refine pw_istore_n (i := 2) (lv' := [(0, .ref b), (1, .int (iZ o)), (2, .int (iZ 0))]) C dX10_lengthOf_1 rfl (by decide) rfl ?_
  refine pw_iload_n (i := 1) C dX10_lengthOf_2 rfl rfl ?_
  refine pw_istore_n (i := 3) (lv' := [(0, .ref b), (1, .int (iZ o)), (2, .int (iZ 0)), (3, .int (iZ o))]) C dX10_lengthOf_3 rfl (by decide) rfl ?_
  exact loop o.toNat 0 o X (by omega) ho (by omega) ⟨fun e => e, fun m e _ => by rw [e]; omega⟩

