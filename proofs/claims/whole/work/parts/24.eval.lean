set_option maxRecDepth 100000 in
set_option maxHeartbeats 4000000 in
/-- handOverValue -/
theorem m_X3_handOverValue (g : pw_P) (l : Launch) {w : pw_W} {A D : Nat → Nat} {cap : Nat} {t : Int → Ob} {n : Int} {ds : List Df} {T : List Dn} {be : Bds} {fu : Nat} {S : List Fr} {k nk : Nat} {K V : Nat → Nat} {mv tm : Int} {sc : Option Nat} {vl : Int} {nm r0 x : Ob} {vs : List Ob} {e0 : Bds} {en : Bool} (hB : EvB g w A D cap t n ds T be fu 0 ((nm, r0, vs, e0, en) :: S) k nk K V mv tm sc vl) (hmv : mv = 1) (hvl : Vl t n vl x) (hv6 : en = false → vs.length < 6) : pw_M g l yX3_handOverValue cX3_handOverValue 3 none { frames := 3, cells := 0, slots := 0, locals := 63 } [.ref (A 18), .ref (K S.length)] w (fun r w' => r = none ∧ frE w w' ∧ (if en then EvS g w' A D cap t n ds T be fu 0 1 x [] S k nk else if nm = yK 3 then EvS g w' A D cap t n ds T be fu 0 0 (if x = oNil then obCar (obCdr r0) else obCar r0) e0 ((nm, r0, vs, e0, true) :: S) k nk else EvS g w' A D cap t n ds T be fu 0 2 oNil [] ((nm, r0, vs ++ [x], e0, false) :: S) k nk)) := by
  refine pw_M.of (by decide) (Nat.le_of_ble_eq_true rfl) rfl ?_
  intro p e s m args below meth c C hr hn
  obtain ⟨bi, F, zn, zr, os, f, q1, q2, q3, q4, q5, q6, q7, q8, q9, q10, q11, q12, q13, q14, q15⟩ := hB.top
  obtain ⟨hS, hF, hD, -, p7, p8, p9, p10, p11⟩ := id hB
  have hn0 := hS.n
  have hzn := Vl.rng hS q8
  have hzr := Vl.rng hS q9
  have hvl0 := Vl.rng hS hvl
  refine pw_aload_n (i := 1) C dX3_handOverValue_0 rfl rfl (Or.inr ⟨_, rfl⟩) ?_
  refine pw_getN (j := 6) C cl_X0 fn_X3_97 (by decide) rfl q5 rfl dX3_handOverValue_1 ?_
  refine pw_if_eqB (tgt := 20) C dX3_handOverValue_4 (by decide) (fun h_1 => ?_) (fun h_1 => ?_)
  · have hen := h_1
    refine pw_aload_n (i := 1) C dX3_handOverValue_20 rfl rfl (Or.inr ⟨_, rfl⟩) ?_
    refine pw_getN (j := 2) C cl_X0 fn_X3_144 (by decide) rfl q5 rfl dX3_handOverValue_21 ?_
    refine pw_iconst C dX3_handOverValue_24 ?_
    refine pw_icmp_ne (tgt := 75) C (by omega) (by omega) dX3_handOverValue_25 (by decide) (fun h_2 => ?_) (fun h_2 => ?_)
    · have hnm : ¬ nm = yK 3 := fun q => absurd ((Vl.isk hS q8 3 (by decide)).mpr q) (by omega)
      refine pw_aload_n (i := 1) C dX3_handOverValue_75 rfl rfl (Or.inr ⟨_, rfl⟩) ?_
      refine pw_aload_n (i := 0) C dX3_handOverValue_76 rfl rfl (Or.inr ⟨_, rfl⟩) ?_
      refine pw_get (j := 11) C cl_X3 fl_X3_69 (by decide) rfl q1 rfl dX3_handOverValue_77 ?_
      refine pw_callV (As := [.int (iZ vl)]) (st := []) C (m_X0_add g l (x := vl) q5 q6 (by omega) ⟨by omega, by have := hv6 hen; omega⟩) my_X0_add ml_X3_58 (pw_rec.of C q5 cl_X0.1) rfl ⟨Nat.le_of_ble_eq_true rfl, Nat.le_of_ble_eq_true rfl⟩ ⟨Nat.le_of_ble_eq_true rfl, Nat.le_of_ble_eq_true rfl⟩ rfl (Nat.le_of_ble_eq_true rfl) dX3_handOverValue_80 ?_
      rintro _ w_3 ⟨rfl, k_4, k_5, o_6⟩
      have o_6x : ∀ j, (j ≠ 200 + S.length ∧ j ≠ 600 + S.length) → w_3 j = w j := fun j hj => o_6 j hj.1 hj.2
      refine pw_stk (st' := []) rfl ?_
      refine pw_aload_n (i := 0) C dX3_handOverValue_83 rfl rfl (Or.inr ⟨_, rfl⟩) ?_
      refine pw_iconst C dX3_handOverValue_84 ?_
      have c_7 := (o_6x 18 (by omega)).trans q1
      refine pw_put (j := 8) C cl_X3 fl_X3_63 (by decide) rfl rfl rfl rfl rfl c_7 (Nat.le_of_ble_eq_true rfl) dX3_handOverValue_85 (fun w_10 k_8 o_9 => ?_)
      have k_11 : w_10 18 = ((A 18), some (OB 3 [.ref (A 2), .ref (A 16), .ref (A 19), .int (iZ (((S.length : Nat) : Int) + 1)), .int (iZ ((fu : Nat) : Int)), .int (iZ ((k : Nat) : Int)), .int (iZ 0), .int (iZ bi), .int (iZ 2), .int (iZ tm), va_rf sc, .int (iZ vl)])) := k_8
      have c_12 := (o_9 (200 + S.length) (by omega)).trans k_4
      have c_13 := (o_9 (600 + S.length) (by omega)).trans k_5
      refine pw_vret C hr dX3_handOverValue_88 ⟨rfl, fun k hk => (o_9 k (by omega)).trans (o_6x k (by omega)), ?_⟩
      rw [if_neg (by rw [hen]; decide), if_neg hnm]
      exact ⟨K, V, 2, tm, sc, vl, q14 _ _ _ _ _ zr _ r0 (vs ++ [x]) false _ k_11 (by rw [c_12, hen]; simp) c_13 (fun j j1 j2 j3 => (o_9 j (by first | assumption | omega)).trans (o_6x j (by first | assumption | omega))) (upz_inI q7 (by omega)) q9 (by have := hv6 hen; simp; omega) (by have := VlsI.add hvl q11; rw [Int.zero_add] at this; exact this), (fun h => by cases h), (fun h => by cases h), (fun _ => rfl)⟩
    · have hnm := (Vl.isk hS q8 3 (by decide)).mp (by omega)
      refine pw_aload_n (i := 1) C dX3_handOverValue_28 rfl rfl (Or.inr ⟨_, rfl⟩) ?_
      refine pw_iconst C dX3_handOverValue_29 ?_
      refine pw_putN (j := 6) C cl_X0 fn_X3_97 (by decide) rfl rfl rfl (by decide +kernel) (by decide +kernel) q5 (Nat.le_of_ble_eq_true rfl) dX3_handOverValue_30 (fun w_16 k_14 o_15 => ?_)
      have k_17 : w_16 (200 + S.length) = ((K S.length), some (OB 0 [.ref (V S.length), .int (iZ ((vs.length : Nat) : Int)), .int (iZ zn), va_rf ((fIx ds zn 0).map D), .int (iZ zr), va_rf os, .int (iZ 1)])) := k_14
      refine pw_aload_n (i := 1) C dX3_handOverValue_33 rfl rfl (Or.inr ⟨_, rfl⟩) ?_
      refine pw_getN (j := 4) C cl_X0 fn_X3_76 (by decide) rfl k_17 rfl dX3_handOverValue_34 ?_
      refine pw_istore_n (i := 2) (lv' := [(0, .ref (A 18)), (1, .ref (K S.length)), (2, .int (iZ zr))]) C dX3_handOverValue_37 rfl (by decide) rfl ?_
      refine pw_aload_n (i := 0) C dX3_handOverValue_38 rfl rfl (Or.inr ⟨_, rfl⟩) ?_
      refine pw_aload_n (i := 0) C dX3_handOverValue_39 rfl rfl (Or.inr ⟨_, rfl⟩) ?_
      have c_18 := (o_15 18 (by omega)).trans q1
      refine pw_get (j := 11) C cl_X3 fl_X3_69 (by decide) rfl c_18 rfl dX3_handOverValue_40 ?_
      refine pw_if_eq (tgt := 57) C (by omega) dX3_handOverValue_43 (by decide) (fun h_19 => ?_) (fun h_19 => ?_)
      · have hS2 := hS.same (w' := w_16) (fun k h1 h2 => (o_15 k (by omega)))
        refine pw_aload_n (i := 0) C dX3_handOverValue_57 rfl rfl (Or.inr ⟨_, rfl⟩) ?_
        refine pw_get (j := 0) C cl_X3 fl_X3_21 (by decide) rfl c_18 rfl dX3_handOverValue_58 ?_
        refine pw_iload_n (i := 2) C dX3_handOverValue_61 rfl rfl ?_
        refine pw_callV (As := [.int (iZ zr)]) (st := [.ref (A 18)]) C (vr_second hS2 q9) my_X6_second ml_X3_123 (hS2.rec C) rfl ⟨Nat.le_of_ble_eq_true rfl, Nat.le_of_ble_eq_true rfl⟩ ⟨Nat.le_of_ble_eq_true rfl, Nat.le_of_ble_eq_true rfl⟩ rfl (Nat.le_of_ble_eq_true rfl) dX3_handOverValue_62 ?_
        rintro _ _ ⟨rfl, z_20, rfl, z_20v⟩
        have z_20r := Vl.rng hS2 z_20v
        refine pw_stk (st' := [.int (iZ z_20), .ref (A 18)]) rfl ?_
        refine pw_aload_n (i := 1) C dX3_handOverValue_65 rfl rfl (Or.inr ⟨_, rfl⟩) ?_
        refine pw_getN (j := 5) C cl_X0 fn_X3_89 (by decide) rfl k_17 rfl dX3_handOverValue_66 ?_
        refine pw_callV (As := [.int (iZ z_20), va_rf os]) (st := []) C (m_X3_evaluateNext g l (x := z_20) (oc := os) c_18) my_X3_evaluateNext ml_X3_41 (pw_rec.of C c_18 cl_X3.1) rfl ⟨Nat.le_of_ble_eq_true rfl, Nat.le_of_ble_eq_true rfl⟩ ⟨Nat.le_of_ble_eq_true rfl, Nat.le_of_ble_eq_true rfl⟩ rfl (Nat.le_of_ble_eq_true rfl) dX3_handOverValue_69 ?_
        rintro _ w_21 ⟨rfl, k_22, o_23⟩
        refine pw_stk (st' := []) rfl ?_
        refine pw_goto (tgt := 88) C dX3_handOverValue_72 (by decide) ?_
        have c_24 := (o_23 (200 + S.length) (by omega)).trans k_17
        have c_25 := ((o_23 (600 + S.length) (by omega)).trans (o_15 (600 + S.length) (by omega))).trans q6
        refine pw_vret C hr dX3_handOverValue_88 ⟨rfl, fun k hk => (o_23 k (by omega)).trans (o_15 k (by omega)), ?_⟩
        rw [if_neg (by rw [hen]; decide), if_pos hnm]
        refine ⟨K, V, 0, z_20, os, vl, q14 _ _ _ _ _ zr _ r0 vs true f k_22 c_24 c_25 (fun j j1 j2 j3 => (o_23 j (by first | assumption | omega)).trans (o_15 j (by first | assumption | omega))) q7 q9 q10 q11, (fun _ => ⟨rfl, ?_, q12.push _⟩), (fun h => by cases h), (fun h => by cases h)⟩
        rw [if_pos ((Vl.isnil hS hvl).mp (by omega))]
        exact z_20v
      · have hS2 := hS.same (w' := w_16) (fun k h1 h2 => (o_15 k (by omega)))
        refine pw_aload_n (i := 0) C dX3_handOverValue_46 rfl rfl (Or.inr ⟨_, rfl⟩) ?_
        refine pw_get (j := 0) C cl_X3 fl_X3_21 (by decide) rfl c_18 rfl dX3_handOverValue_47 ?_
        refine pw_iload_n (i := 2) C dX3_handOverValue_50 rfl rfl ?_
        refine pw_callV (As := [.int (iZ zr)]) (st := [.ref (A 18)]) C (vr_head hS2 q9) my_X6_head ml_X3_85 (hS2.rec C) rfl ⟨Nat.le_of_ble_eq_true rfl, Nat.le_of_ble_eq_true rfl⟩ ⟨Nat.le_of_ble_eq_true rfl, Nat.le_of_ble_eq_true rfl⟩ rfl (Nat.le_of_ble_eq_true rfl) dX3_handOverValue_51 ?_
        rintro _ _ ⟨rfl, z_26, rfl, z_26v⟩
        have z_26r := Vl.rng hS2 z_26v
        refine pw_stk (st' := [.int (iZ z_26), .ref (A 18)]) rfl ?_
        refine pw_goto (tgt := 65) C dX3_handOverValue_54 (by decide) ?_
        refine pw_aload_n (i := 1) C dX3_handOverValue_65 rfl rfl (Or.inr ⟨_, rfl⟩) ?_
        refine pw_getN (j := 5) C cl_X0 fn_X3_89 (by decide) rfl k_17 rfl dX3_handOverValue_66 ?_
        refine pw_callV (As := [.int (iZ z_26), va_rf os]) (st := []) C (m_X3_evaluateNext g l (x := z_26) (oc := os) c_18) my_X3_evaluateNext ml_X3_41 (pw_rec.of C c_18 cl_X3.1) rfl ⟨Nat.le_of_ble_eq_true rfl, Nat.le_of_ble_eq_true rfl⟩ ⟨Nat.le_of_ble_eq_true rfl, Nat.le_of_ble_eq_true rfl⟩ rfl (Nat.le_of_ble_eq_true rfl) dX3_handOverValue_69 ?_
        rintro _ w_27 ⟨rfl, k_28, o_29⟩
        refine pw_stk (st' := []) rfl ?_
        refine pw_goto (tgt := 88) C dX3_handOverValue_72 (by decide) ?_
        have c_30 := (o_29 (200 + S.length) (by omega)).trans k_17
        have c_31 := ((o_29 (600 + S.length) (by omega)).trans (o_15 (600 + S.length) (by omega))).trans q6
        refine pw_vret C hr dX3_handOverValue_88 ⟨rfl, fun k hk => (o_29 k (by omega)).trans (o_15 k (by omega)), ?_⟩
        rw [if_neg (by rw [hen]; decide), if_pos hnm]
        refine ⟨K, V, 0, z_26, os, vl, q14 _ _ _ _ _ zr _ r0 vs true f k_28 c_30 c_31 (fun j j1 j2 j3 => (o_29 j (by first | assumption | omega)).trans (o_15 j (by first | assumption | omega))) q7 q9 q10 q11, (fun _ => ⟨rfl, ?_, q12.push _⟩), (fun h => by cases h), (fun h => by cases h)⟩
        rw [if_neg (fun q => absurd ((Vl.isnil hS hvl).mpr q) (by omega))]
        exact z_26v
  · have hen := h_1
    refine pw_aload_n (i := 0) C dX3_handOverValue_7 rfl rfl (Or.inr ⟨_, rfl⟩) ?_
    refine pw_dup C dX3_handOverValue_8 rfl ?_
    refine pw_get (j := 3) C cl_X3 fl_X3_35 (by decide) rfl q1 rfl dX3_handOverValue_9 ?_
    refine pw_iconst C dX3_handOverValue_12 ?_
    refine pw_isub C dX3_handOverValue_13 ?_
    refine pw_put (j := 3) C cl_X3 fl_X3_35 (by decide) rfl rfl rfl rfl rfl q1 (Nat.le_of_ble_eq_true rfl) dX3_handOverValue_14 (fun w_34 k_32 o_33 => ?_)
    have k_35 : w_34 18 = ((A 18), some (OB 3 [.ref (A 2), .ref (A 16), .ref (A 19), .int (iZ ((((S.length : Nat) : Int) + 1) - 1)), .int (iZ ((fu : Nat) : Int)), .int (iZ ((k : Nat) : Int)), .int (iZ 0), .int (iZ bi), .int (iZ mv), .int (iZ tm), va_rf sc, .int (iZ vl)])) := k_32
    refine pw_goto (tgt := 88) C dX3_handOverValue_17 (by decide) ?_
    have c_36 := (o_33 (200 + S.length) (by omega)).trans q5
    have c_37 := (o_33 (600 + S.length) (by omega)).trans q6
    refine pw_vret C hr dX3_handOverValue_88 ⟨rfl, fun k hk => (o_33 k (by omega)), ?_⟩
    rw [if_pos hen]
    exact ⟨K, V, mv, tm, sc, vl, q15 _ t n _ _ _ _ _ (by rw [k_35]; simp) (hS.same (fun k h1 h2 => (o_33 k (by omega)))) Ext.rf (fun j j1 j2 => (o_33 j (by first | assumption | omega))), (fun h => by cases h), (fun _ => ⟨hmv, hvl⟩), (fun h => by cases h)⟩

