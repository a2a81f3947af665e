set_option maxRecDepth 100000 in
set_option maxHeartbeats 4000000 in
/-- applyBase -/
theorem m_X3_applyBase (g : pw_P) (l : Launch) {w : pw_W} {A D : Nat → Nat} {cap : Nat} {t : Int → Ob} {n : Int} {ds : List Df} {T : List Dn} {be : Bds} {fu : Nat} {S : List Fr} {k nk : Nat} {K V : Nat → Nat} {mv tm : Int} {sc : Option Nat} {vl : Int} {nm r0 : Ob} {vs : List Ob} {e0 : Bds} {en : Bool} (hB : EvB g w A D cap t n ds T be fu 0 ((nm, r0, vs, e0, en) :: S) k nk K V mv tm sc vl) (hk : 4 ≤ kIx nm ∧ kIx nm ≤ 16) (hvl : (vs.length : Int) = arB (kIx nm)) (hcap : n < cap) : pw_M g l yX3_applyBase cX3_applyBase 6 none { frames := 3, cells := 0, slots := 0, locals := 73 } [.ref (A 18), .ref (K S.length)] w (fun r w' => r = none ∧ frE w w' ∧ ∃ (t' : Int → Ob) (n' : Int), Ext t n t' n' ∧ n' ≤ n + 1 ∧ (match baseF (kIx nm) (vs.getD 0 oNil) (vs.getD 1 oNil) with
  | some v => EvS g w' A D cap t' n' ds T be fu 0 1 v [] S k nk
  | none => EvS g w' A D cap t' n' ds T be fu 3 3 oNil [] S k nk)) := by
  refine pw_M.of (by decide) (Nat.le_of_ble_eq_true rfl) rfl ?_
  intro p e s m args below meth c C hr hn
  obtain ⟨bi, F, zn, zr, os, f, q1, q2, q3, q4, q5, q6, q7, q8, q9, q10, q11, q12, q13, q14, q15⟩ := hB.top
  obtain ⟨hS, hF, hD, -, p7, p8, p9, p10, p11⟩ := id hB
  have hn0 := hS.n
  have hzn := Vl.rng hS q8
  have hzr := Vl.rng hS q9
  have hkz := Vl.kix hS q8
  have hz16 : 4 ≤ zn ∧ zn ≤ 16 := by split at hkz <;> omega
  refine pw_aload_n (i := 1) C dX3_applyBase_0 rfl rfl (Or.inr ⟨_, rfl⟩) ?_
  refine pw_getN (j := 0) C cl_X0 fn_X3_129 (by decide) rfl q5 rfl dX3_applyBase_1 ?_
  refine pw_iconst C dX3_applyBase_4 ?_
  have g_1 := q7 0
  refine pw_iald C q6 ⟨by omega, by omega, by omega⟩ dX3_applyBase_5 ?_
  refine pw_istore_n (i := 2) (lv' := [(0, .ref (A 18)), (1, .ref (K S.length)), (2, .int (iZ (f 0)))]) C dX3_applyBase_6 rfl (by decide) rfl ?_
  refine pw_aload_n (i := 1) C dX3_applyBase_7 rfl rfl (Or.inr ⟨_, rfl⟩) ?_
  refine pw_getN (j := 0) C cl_X0 fn_X3_129 (by decide) rfl q5 rfl dX3_applyBase_8 ?_
  refine pw_iconst C dX3_applyBase_11 ?_
  have g_2 := q7 1
  refine pw_iald C q6 ⟨by omega, by omega, by omega⟩ dX3_applyBase_12 ?_
  refine pw_istore_n (i := 3) (lv' := [(0, .ref (A 18)), (1, .ref (K S.length)), (2, .int (iZ (f 0))), (3, .int (iZ (f 1)))]) C dX3_applyBase_13 rfl (by decide) rfl ?_
  refine pw_aload_n (i := 0) C dX3_applyBase_14 rfl rfl (Or.inr ⟨_, rfl⟩) ?_
  refine pw_dup C dX3_applyBase_15 rfl ?_
  refine pw_get (j := 3) C cl_X3 fl_X3_35 (by decide) rfl q1 rfl dX3_applyBase_16 ?_
  refine pw_iconst C dX3_applyBase_19 ?_
  refine pw_isub C dX3_applyBase_20 ?_
  refine pw_put (j := 3) C cl_X3 fl_X3_35 (by decide) rfl rfl rfl rfl rfl q1 (Nat.le_of_ble_eq_true rfl) dX3_applyBase_21 (fun w_5 k_3 o_4 => ?_)
  have k_6 : w_5 18 = ((A 18), some (OB 3 [.ref (A 2), .ref (A 16), .ref (A 19), .int (iZ ((((S.length : Nat) : Int) + 1) - 1)), .int (iZ ((fu : Nat) : Int)), .int (iZ ((k : Nat) : Int)), .int (iZ 0), .int (iZ bi), .int (iZ mv), .int (iZ tm), va_rf sc, .int (iZ vl)])) := k_3
  refine pw_aload_n (i := 1) C dX3_applyBase_24 rfl rfl (Or.inr ⟨_, rfl⟩) ?_
  have c_7 := (o_4 (200 + S.length) (by omega)).trans q5
  refine pw_getN (j := 2) C cl_X0 fn_X3_144 (by decide) rfl c_7 rfl dX3_applyBase_25 ?_
  by_cases h_8 : zn = 4
  · refine pw_tsIn (tgt := 92) (off := 64) C dX3_applyBase_28 (by omega) (by omega) (by omega) (by rw [h_8]; rfl) (by decide) ?_
    have hkc : kIx nm = 4 := by have := Vl.kix hS q8; split at this <;> omega
    have hvn : (vs.length : Int) = 2 := by rw [hvl, hkc]; rfl
    have ha : Vl t n (f 0) (vs.getD 0 oNil) := VlsI.get 0 q11 (by omega)
    have ha0 := Vl.rng hS ha
    have haa := obAm_in (hS.ok ha)
    have hah := Vl.ht hS ha
    have hb : Vl t n (f 1) (vs.getD 1 oNil) := VlsI.get 1 q11 (by omega)
    have hb0 := Vl.rng hS hb
    have hbb := obAm_in (hS.ok hb)
    have S_9 := hS.same (w' := w_5) (fun k h1 h2 => (o_4 k (by omega)))
    refine pw_aload_n (i := 0) C dX3_applyBase_92 rfl rfl (Or.inr ⟨_, rfl⟩) ?_
    refine pw_iload_n (i := 2) C dX3_applyBase_93 rfl rfl ?_
    refine pw_iload_n (i := 3) C dX3_applyBase_94 rfl rfl ?_
    refine pw_icmp_ne (tgt := 102) C (by omega) (by omega) dX3_applyBase_95 (by decide) (fun h_10 => ?_) (fun h_10 => ?_)
    · refine pw_iconst C dX3_applyBase_102 ?_
      refine pw_callS (As := [.int (iZ (b2i false))]) (st := [.ref (A 18)]) C (m_X3_truth g l (b := false)) my_X3_truth ml_X3_145 rfl ⟨Nat.le_of_ble_eq_true rfl, Nat.le_of_ble_eq_true rfl⟩ ⟨Nat.le_of_ble_eq_true rfl, Nat.le_of_ble_eq_true rfl⟩ rfl (Nat.le_of_ble_eq_true rfl) dX3_applyBase_103 ?_
      rintro _ _ ⟨rfl, rfl⟩
      refine pw_stk (st' := [.int (iZ (b2i false)), .ref (A 18)]) rfl ?_
      refine pw_callV (As := [.int (iZ (b2i false))]) (st := []) C (ev_answer g l k_6) my_X3_answer ml_X3_120 (pw_rec.of C k_6 cl_X3.1) rfl ⟨Nat.le_of_ble_eq_true rfl, Nat.le_of_ble_eq_true rfl⟩ ⟨Nat.le_of_ble_eq_true rfl, Nat.le_of_ble_eq_true rfl⟩ rfl (Nat.le_of_ble_eq_true rfl) dX3_applyBase_106 ?_
      rintro _ w_11 ⟨rfl, k_12, o_13⟩
      refine pw_stk (st' := []) rfl ?_
      refine pw_goto (tgt := 410) C dX3_applyBase_109 (by decide) ?_
      refine pw_vret C hr dX3_applyBase_410 ⟨rfl, fun k hk => (o_13 k (by omega)).trans (o_4 k (by omega)), t, n, Ext.rf, by omega, ?_⟩
      rw [show baseF (kIx nm) (vs.getD 0 oNil) (vs.getD 1 oNil) = some (trO false) from by rw [hkc]; exact congrArg (fun q => some (trO q)) (decide_eq_false (fun q => absurd ((Vl.inj hS ha hb).mpr q) (by omega)))]
      exact ⟨K, V, _, _, _, _, q15 _ t n 0 1 tm (b2i false) sc (by rw [k_12, Int.add_sub_cancel]) (S_9.same (fun k h1 h2 => (o_13 k (by omega)))) Ext.rf (fun j j1 j2 => (o_13 j (by first | assumption | omega)).trans (o_4 j (by first | assumption | omega))), (fun h => by cases h), (fun _ => ⟨rfl, (Vl.tr S_9 false)⟩), (fun h => by cases h)⟩
    · refine pw_iconst C dX3_applyBase_98 ?_
      refine pw_goto (tgt := 103) C dX3_applyBase_99 (by decide) ?_
      refine pw_callS (As := [.int (iZ (b2i true))]) (st := [.ref (A 18)]) C (m_X3_truth g l (b := true)) my_X3_truth ml_X3_145 rfl ⟨Nat.le_of_ble_eq_true rfl, Nat.le_of_ble_eq_true rfl⟩ ⟨Nat.le_of_ble_eq_true rfl, Nat.le_of_ble_eq_true rfl⟩ rfl (Nat.le_of_ble_eq_true rfl) dX3_applyBase_103 ?_
      rintro _ _ ⟨rfl, rfl⟩
      refine pw_stk (st' := [.int (iZ (b2i true)), .ref (A 18)]) rfl ?_
      refine pw_callV (As := [.int (iZ (b2i true))]) (st := []) C (ev_answer g l k_6) my_X3_answer ml_X3_120 (pw_rec.of C k_6 cl_X3.1) rfl ⟨Nat.le_of_ble_eq_true rfl, Nat.le_of_ble_eq_true rfl⟩ ⟨Nat.le_of_ble_eq_true rfl, Nat.le_of_ble_eq_true rfl⟩ rfl (Nat.le_of_ble_eq_true rfl) dX3_applyBase_106 ?_
      rintro _ w_14 ⟨rfl, k_15, o_16⟩
      refine pw_stk (st' := []) rfl ?_
      refine pw_goto (tgt := 410) C dX3_applyBase_109 (by decide) ?_
      refine pw_vret C hr dX3_applyBase_410 ⟨rfl, fun k hk => (o_16 k (by omega)).trans (o_4 k (by omega)), t, n, Ext.rf, by omega, ?_⟩
      rw [show baseF (kIx nm) (vs.getD 0 oNil) (vs.getD 1 oNil) = some (trO true) from by rw [hkc]; exact congrArg (fun q => some (trO q)) (decide_eq_true ((Vl.inj hS ha hb).mp (by omega)))]
      exact ⟨K, V, _, _, _, _, q15 _ t n 0 1 tm (b2i true) sc (by rw [k_15, Int.add_sub_cancel]) (S_9.same (fun k h1 h2 => (o_16 k (by omega)))) Ext.rf (fun j j1 j2 => (o_16 j (by first | assumption | omega)).trans (o_4 j (by first | assumption | omega))), (fun h => by cases h), (fun _ => ⟨rfl, (Vl.tr S_9 true)⟩), (fun h => by cases h)⟩
  by_cases h_17 : zn = 5
  · refine pw_tsIn (tgt := 112) (off := 84) C dX3_applyBase_28 (by omega) (by omega) (by omega) (by rw [h_17]; rfl) (by decide) ?_
    have hkc : kIx nm = 5 := by have := Vl.kix hS q8; split at this <;> omega
    have hvn : (vs.length : Int) = 2 := by rw [hvl, hkc]; rfl
    have ha : Vl t n (f 0) (vs.getD 0 oNil) := VlsI.get 0 q11 (by omega)
    have ha0 := Vl.rng hS ha
    have haa := obAm_in (hS.ok ha)
    have hah := Vl.ht hS ha
    have hb : Vl t n (f 1) (vs.getD 1 oNil) := VlsI.get 1 q11 (by omega)
    have hb0 := Vl.rng hS hb
    have hbb := obAm_in (hS.ok hb)
    have S_18 := hS.same (w' := w_5) (fun k h1 h2 => (o_4 k (by omega)))
    refine pw_aload_n (i := 0) C dX3_applyBase_112 rfl rfl (Or.inr ⟨_, rfl⟩) ?_
    refine pw_aload_n (i := 0) C dX3_applyBase_113 rfl rfl (Or.inr ⟨_, rfl⟩) ?_
    refine pw_get (j := 0) C cl_X3 fl_X3_21 (by decide) rfl k_6 rfl dX3_applyBase_114 ?_
    refine pw_iload_n (i := 2) C dX3_applyBase_117 rfl rfl ?_
    refine pw_iload_n (i := 3) C dX3_applyBase_118 rfl rfl ?_
    refine pw_callV (As := [.int (iZ (f 0)), .int (iZ (f 1))]) (st := [.ref (A 18)]) C (vr_pair S_18 (by omega) ha hb) my_X6_pair ml_X3_149 (S_18.rec C) rfl ⟨Nat.le_of_ble_eq_true rfl, Nat.le_of_ble_eq_true rfl⟩ ⟨Nat.le_of_ble_eq_true rfl, Nat.le_of_ble_eq_true rfl⟩ rfl (Nat.le_of_ble_eq_true rfl) dX3_applyBase_119 ?_
    rintro _ w_26 ⟨z_19, t_20, n_21, rfl, S_22, x_23, hn_24, z_19v, o_25⟩
    have x_231 := x_23.1
    have v_27 := Vl.ext q8 x_23
    have v_28 := Vl.ext q9 x_23
    have v_29 := Vl.ext ha x_23
    have v_30 := Vl.ext hb x_23
    have z_19r := Vl.rng S_22 z_19v
    refine pw_stk (st' := [.int (iZ z_19), .ref (A 18)]) rfl ?_
    have c_31 := (o_25 18 (by omega)).trans k_6
    refine pw_callV (As := [.int (iZ z_19)]) (st := []) C (ev_answer g l c_31) my_X3_answer ml_X3_120 (pw_rec.of C c_31 cl_X3.1) rfl ⟨Nat.le_of_ble_eq_true rfl, Nat.le_of_ble_eq_true rfl⟩ ⟨Nat.le_of_ble_eq_true rfl, Nat.le_of_ble_eq_true rfl⟩ rfl (Nat.le_of_ble_eq_true rfl) dX3_applyBase_122 ?_
    rintro _ w_32 ⟨rfl, k_33, o_34⟩
    refine pw_stk (st' := []) rfl ?_
    refine pw_goto (tgt := 410) C dX3_applyBase_125 (by decide) ?_
    refine pw_vret C hr dX3_applyBase_410 ⟨rfl, fun k hk => (o_34 k (by omega)).trans ((o_25 k (by omega)).trans (o_4 k (by omega))), t_20, n_21, x_23, by omega, ?_⟩
    rw [show baseF (kIx nm) (vs.getD 0 oNil) (vs.getD 1 oNil) = some (.add (vs.getD 0 oNil) (vs.getD 1 oNil)) from by rw [hkc]; rfl]
    exact ⟨K, V, _, _, _, _, q15 _ t_20 n_21 0 1 tm z_19 sc (by rw [k_33, Int.add_sub_cancel]) (S_22.same (fun k h1 h2 => (o_34 k (by omega)))) x_23 (fun j j1 j2 => (o_34 j (by first | assumption | omega)).trans ((o_25 j (by first | assumption | omega)).trans (o_4 j (by first | assumption | omega)))), (fun h => by cases h), (fun _ => ⟨rfl, z_19v⟩), (fun h => by cases h)⟩
  by_cases h_35 : zn = 6
  · refine pw_tsIn (tgt := 128) (off := 100) C dX3_applyBase_28 (by omega) (by omega) (by omega) (by rw [h_35]; rfl) (by decide) ?_
    have hkc : kIx nm = 6 := by have := Vl.kix hS q8; split at this <;> omega
    have hvn : (vs.length : Int) = 2 := by rw [hvl, hkc]; rfl
    have ha : Vl t n (f 0) (vs.getD 0 oNil) := VlsI.get 0 q11 (by omega)
    have ha0 := Vl.rng hS ha
    have haa := obAm_in (hS.ok ha)
    have hah := Vl.ht hS ha
    have hb : Vl t n (f 1) (vs.getD 1 oNil) := VlsI.get 1 q11 (by omega)
    have hb0 := Vl.rng hS hb
    have hbb := obAm_in (hS.ok hb)
    have S_36 := hS.same (w' := w_5) (fun k h1 h2 => (o_4 k (by omega)))
    refine pw_aload_n (i := 0) C dX3_applyBase_128 rfl rfl (Or.inr ⟨_, rfl⟩) ?_
    refine pw_iload_n (i := 2) C dX3_applyBase_129 rfl rfl ?_
    refine pw_if_eq (tgt := 137) C (by omega) dX3_applyBase_130 (by decide) (fun h_37 => ?_) (fun h_37 => ?_)
    · refine pw_iconst C dX3_applyBase_137 ?_
      refine pw_goto (tgt := 142) C dX3_applyBase_138 (by decide) ?_
      refine pw_callS (As := [.int (iZ (b2i true))]) (st := [.ref (A 18)]) C (m_X3_truth g l (b := true)) my_X3_truth ml_X3_145 rfl ⟨Nat.le_of_ble_eq_true rfl, Nat.le_of_ble_eq_true rfl⟩ ⟨Nat.le_of_ble_eq_true rfl, Nat.le_of_ble_eq_true rfl⟩ rfl (Nat.le_of_ble_eq_true rfl) dX3_applyBase_142 ?_
      rintro _ _ ⟨rfl, rfl⟩
      refine pw_stk (st' := [.int (iZ (b2i true)), .ref (A 18)]) rfl ?_
      refine pw_callV (As := [.int (iZ (b2i true))]) (st := []) C (ev_answer g l k_6) my_X3_answer ml_X3_120 (pw_rec.of C k_6 cl_X3.1) rfl ⟨Nat.le_of_ble_eq_true rfl, Nat.le_of_ble_eq_true rfl⟩ ⟨Nat.le_of_ble_eq_true rfl, Nat.le_of_ble_eq_true rfl⟩ rfl (Nat.le_of_ble_eq_true rfl) dX3_applyBase_145 ?_
      rintro _ w_38 ⟨rfl, k_39, o_40⟩
      refine pw_stk (st' := []) rfl ?_
      refine pw_goto (tgt := 410) C dX3_applyBase_148 (by decide) ?_
      refine pw_vret C hr dX3_applyBase_410 ⟨rfl, fun k hk => (o_40 k (by omega)).trans (o_4 k (by omega)), t, n, Ext.rf, by omega, ?_⟩
      rw [show baseF (kIx nm) (vs.getD 0 oNil) (vs.getD 1 oNil) = some (trO true) from by rw [hkc]; exact congrArg (fun q => some (trO q)) (decide_eq_true (Or.inl ((Vl.isnil hS ha).mp (by omega))))]
      exact ⟨K, V, _, _, _, _, q15 _ t n 0 1 tm (b2i true) sc (by rw [k_39, Int.add_sub_cancel]) (S_36.same (fun k h1 h2 => (o_40 k (by omega)))) Ext.rf (fun j j1 j2 => (o_40 j (by first | assumption | omega)).trans (o_4 j (by first | assumption | omega))), (fun h => by cases h), (fun _ => ⟨rfl, (Vl.tr S_36 true)⟩), (fun h => by cases h)⟩
    · refine pw_iload_n (i := 3) C dX3_applyBase_133 rfl rfl ?_
      refine pw_if_eq (tgt := 141) C (by omega) dX3_applyBase_134 (by decide) (fun h_41 => ?_) (fun h_41 => ?_)
      · refine pw_iconst C dX3_applyBase_141 ?_
        refine pw_callS (As := [.int (iZ (b2i false))]) (st := [.ref (A 18)]) C (m_X3_truth g l (b := false)) my_X3_truth ml_X3_145 rfl ⟨Nat.le_of_ble_eq_true rfl, Nat.le_of_ble_eq_true rfl⟩ ⟨Nat.le_of_ble_eq_true rfl, Nat.le_of_ble_eq_true rfl⟩ rfl (Nat.le_of_ble_eq_true rfl) dX3_applyBase_142 ?_
        rintro _ _ ⟨rfl, rfl⟩
        refine pw_stk (st' := [.int (iZ (b2i false)), .ref (A 18)]) rfl ?_
        refine pw_callV (As := [.int (iZ (b2i false))]) (st := []) C (ev_answer g l k_6) my_X3_answer ml_X3_120 (pw_rec.of C k_6 cl_X3.1) rfl ⟨Nat.le_of_ble_eq_true rfl, Nat.le_of_ble_eq_true rfl⟩ ⟨Nat.le_of_ble_eq_true rfl, Nat.le_of_ble_eq_true rfl⟩ rfl (Nat.le_of_ble_eq_true rfl) dX3_applyBase_145 ?_
        rintro _ w_42 ⟨rfl, k_43, o_44⟩
        refine pw_stk (st' := []) rfl ?_
        refine pw_goto (tgt := 410) C dX3_applyBase_148 (by decide) ?_
        refine pw_vret C hr dX3_applyBase_410 ⟨rfl, fun k hk => (o_44 k (by omega)).trans (o_4 k (by omega)), t, n, Ext.rf, by omega, ?_⟩
        rw [show baseF (kIx nm) (vs.getD 0 oNil) (vs.getD 1 oNil) = some (trO false) from by rw [hkc]; exact congrArg (fun q => some (trO q)) (decide_eq_false (fun q => q.elim (fun q => absurd ((Vl.isnil hS ha).mpr q) (by omega)) (fun q => q ((Vl.isnil hS hb).mp (by omega)))))]
        exact ⟨K, V, _, _, _, _, q15 _ t n 0 1 tm (b2i false) sc (by rw [k_43, Int.add_sub_cancel]) (S_36.same (fun k h1 h2 => (o_44 k (by omega)))) Ext.rf (fun j j1 j2 => (o_44 j (by first | assumption | omega)).trans (o_4 j (by first | assumption | omega))), (fun h => by cases h), (fun _ => ⟨rfl, (Vl.tr S_36 false)⟩), (fun h => by cases h)⟩
      · refine pw_iconst C dX3_applyBase_137 ?_
        refine pw_goto (tgt := 142) C dX3_applyBase_138 (by decide) ?_
        refine pw_callS (As := [.int (iZ (b2i true))]) (st := [.ref (A 18)]) C (m_X3_truth g l (b := true)) my_X3_truth ml_X3_145 rfl ⟨Nat.le_of_ble_eq_true rfl, Nat.le_of_ble_eq_true rfl⟩ ⟨Nat.le_of_ble_eq_true rfl, Nat.le_of_ble_eq_true rfl⟩ rfl (Nat.le_of_ble_eq_true rfl) dX3_applyBase_142 ?_
        rintro _ _ ⟨rfl, rfl⟩
        refine pw_stk (st' := [.int (iZ (b2i true)), .ref (A 18)]) rfl ?_
        refine pw_callV (As := [.int (iZ (b2i true))]) (st := []) C (ev_answer g l k_6) my_X3_answer ml_X3_120 (pw_rec.of C k_6 cl_X3.1) rfl ⟨Nat.le_of_ble_eq_true rfl, Nat.le_of_ble_eq_true rfl⟩ ⟨Nat.le_of_ble_eq_true rfl, Nat.le_of_ble_eq_true rfl⟩ rfl (Nat.le_of_ble_eq_true rfl) dX3_applyBase_145 ?_
        rintro _ w_45 ⟨rfl, k_46, o_47⟩
        refine pw_stk (st' := []) rfl ?_
        refine pw_goto (tgt := 410) C dX3_applyBase_148 (by decide) ?_
        refine pw_vret C hr dX3_applyBase_410 ⟨rfl, fun k hk => (o_47 k (by omega)).trans (o_4 k (by omega)), t, n, Ext.rf, by omega, ?_⟩
        rw [show baseF (kIx nm) (vs.getD 0 oNil) (vs.getD 1 oNil) = some (trO true) from by rw [hkc]; exact congrArg (fun q => some (trO q)) (decide_eq_true (Or.inr (fun q => absurd ((Vl.isnil hS hb).mpr q) (by omega))))]
        exact ⟨K, V, _, _, _, _, q15 _ t n 0 1 tm (b2i true) sc (by rw [k_46, Int.add_sub_cancel]) (S_36.same (fun k h1 h2 => (o_47 k (by omega)))) Ext.rf (fun j j1 j2 => (o_47 j (by first | assumption | omega)).trans (o_4 j (by first | assumption | omega))), (fun h => by cases h), (fun _ => ⟨rfl, (Vl.tr S_36 true)⟩), (fun h => by cases h)⟩
  by_cases h_48 : zn = 7
  · refine pw_tsIn (tgt := 151) (off := 123) C dX3_applyBase_28 (by omega) (by omega) (by omega) (by rw [h_48]; rfl) (by decide) ?_
    have hkc : kIx nm = 7 := by have := Vl.kix hS q8; split at this <;> omega
    have hvn : (vs.length : Int) = 2 := by rw [hvl, hkc]; rfl
    have ha : Vl t n (f 0) (vs.getD 0 oNil) := VlsI.get 0 q11 (by omega)
    have ha0 := Vl.rng hS ha
    have haa := obAm_in (hS.ok ha)
    have hah := Vl.ht hS ha
    have hb : Vl t n (f 1) (vs.getD 1 oNil) := VlsI.get 1 q11 (by omega)
    have hb0 := Vl.rng hS hb
    have hbb := obAm_in (hS.ok hb)
    have S_49 := hS.same (w' := w_5) (fun k h1 h2 => (o_4 k (by omega)))
    refine pw_aload_n (i := 0) C dX3_applyBase_151 rfl rfl (Or.inr ⟨_, rfl⟩) ?_
    refine pw_get (j := 0) C cl_X3 fl_X3_21 (by decide) rfl k_6 rfl dX3_applyBase_152 ?_
    refine pw_iload_n (i := 2) C dX3_applyBase_155 rfl rfl ?_
    refine pw_callV (As := [.int (iZ (f 0))]) (st := []) C (vr_amount S_49 ha) my_X6_amount ml_X3_153 (S_49.rec C) rfl ⟨Nat.le_of_ble_eq_true rfl, Nat.le_of_ble_eq_true rfl⟩ ⟨Nat.le_of_ble_eq_true rfl, Nat.le_of_ble_eq_true rfl⟩ rfl (Nat.le_of_ble_eq_true rfl) dX3_applyBase_156 ?_
    rintro _ _ ⟨rfl, rfl⟩
    refine pw_stk (st' := [.long (lZ (obAm (vs.getD 0 oNil)))]) rfl ?_
    refine pw_aload_n (i := 0) C dX3_applyBase_159 rfl rfl (Or.inr ⟨_, rfl⟩) ?_
    refine pw_get (j := 0) C cl_X3 fl_X3_21 (by decide) rfl k_6 rfl dX3_applyBase_160 ?_
    refine pw_iload_n (i := 3) C dX3_applyBase_163 rfl rfl ?_
    refine pw_callV (As := [.int (iZ (f 1))]) (st := [.long (lZ (obAm (vs.getD 0 oNil)))]) C (vr_amount S_49 hb) my_X6_amount ml_X3_153 (S_49.rec C) rfl ⟨Nat.le_of_ble_eq_true rfl, Nat.le_of_ble_eq_true rfl⟩ ⟨Nat.le_of_ble_eq_true rfl, Nat.le_of_ble_eq_true rfl⟩ rfl (Nat.le_of_ble_eq_true rfl) dX3_applyBase_164 ?_
    rintro _ _ ⟨rfl, rfl⟩
    refine pw_stk (st' := [.long (lZ (obAm (vs.getD 1 oNil))), .long (lZ (obAm (vs.getD 0 oNil)))]) rfl ?_
    refine pw_ladd C dX3_applyBase_167 ?_
    refine pw_lstore (lv' := [(0, .ref (A 18)), (1, .ref (K S.length)), (2, .int (iZ (f 0))), (3, .int (iZ (f 1))), (4, .long (lZ (obAm (vs.getD 0 oNil) + obAm (vs.getD 1 oNil))))]) C dX3_applyBase_168 (by decide) rfl ?_
    refine pw_aload_n (i := 0) C dX3_applyBase_170 rfl rfl (Or.inr ⟨_, rfl⟩) ?_
    refine pw_lload C dX3_applyBase_171 rfl ?_
    refine pw_ldc2 (z := 4611686018427387903) C kj_X3_157 (by decide) dX3_applyBase_173 ?_
    refine pw_lcmp C (by omega) (by omega) dX3_applyBase_176 ?_
    refine pw_if_le (tgt := 184) C (cmpZ_in _ _) dX3_applyBase_177 (by decide) (fun h_50 => ?_) (fun h_50 => ?_)
    · have h_50 := cmpZ_le1 h_50
      refine pw_iconst C dX3_applyBase_184 ?_
      refine pw_put (j := 6) C cl_X3 fl_X3_32 (by decide) rfl rfl rfl rfl rfl k_6 (Nat.le_of_ble_eq_true rfl) dX3_applyBase_185 (fun w_53 k_51 o_52 => ?_)
      have k_54 : w_53 18 = ((A 18), some (OB 3 [.ref (A 2), .ref (A 16), .ref (A 19), .int (iZ ((((S.length : Nat) : Int) + 1) - 1)), .int (iZ ((fu : Nat) : Int)), .int (iZ ((k : Nat) : Int)), .int (iZ 0), .int (iZ bi), .int (iZ mv), .int (iZ tm), va_rf sc, .int (iZ vl)])) := k_51
      refine pw_aload_n (i := 0) C dX3_applyBase_188 rfl rfl (Or.inr ⟨_, rfl⟩) ?_
      refine pw_lload C dX3_applyBase_189 rfl ?_
      refine pw_ldc2 (z := 4611686018427387903) C kj_X3_157 (by decide) dX3_applyBase_191 ?_
      refine pw_lcmp C (by omega) (by omega) dX3_applyBase_194 ?_
      refine pw_if_le (tgt := 202) C (cmpZ_in _ _) dX3_applyBase_195 (by decide) (fun h_55 => ?_) (fun h_55 => ?_)
      · have h_55 := cmpZ_le1 h_55
        have S_56 := S_49.same (w' := w_53) (fun k h1 h2 => (o_52 k (by omega)))
        refine pw_aload_n (i := 0) C dX3_applyBase_202 rfl rfl (Or.inr ⟨_, rfl⟩) ?_
        refine pw_get (j := 0) C cl_X3 fl_X3_21 (by decide) rfl k_54 rfl dX3_applyBase_203 ?_
        refine pw_lload C dX3_applyBase_206 rfl ?_
        refine pw_stk (st' := [.long (lZ (((obAm (vs.getD 0 oNil) + obAm (vs.getD 1 oNil)).toNat : Nat) : Int)), .ref (A 2), .ref (A 18)]) (by rw [show (((obAm (vs.getD 0 oNil) + obAm (vs.getD 1 oNil)).toNat : Nat) : Int) = (obAm (vs.getD 0 oNil) + obAm (vs.getD 1 oNil)) from (by omega)]) ?_
        refine pw_callV (As := [.long (lZ (((obAm (vs.getD 0 oNil) + obAm (vs.getD 1 oNil)).toNat : Nat) : Int))]) (st := [.ref (A 18)]) C (vr_natural S_56 (by omega) (m := (obAm (vs.getD 0 oNil) + obAm (vs.getD 1 oNil)).toNat) (by omega)) my_X6_natural ml_X3_159 (S_56.rec C) rfl ⟨Nat.le_of_ble_eq_true rfl, Nat.le_of_ble_eq_true rfl⟩ ⟨Nat.le_of_ble_eq_true rfl, Nat.le_of_ble_eq_true rfl⟩ rfl (Nat.le_of_ble_eq_true rfl) dX3_applyBase_208 ?_
        rintro _ w_64 ⟨z_57, t_58, n_59, rfl, S_60, x_61, hn_62, z_57v, o_63⟩
        have x_611 := x_61.1
        have v_65 := Vl.ext q8 x_61
        have v_66 := Vl.ext q9 x_61
        have v_67 := Vl.ext ha x_61
        have v_68 := Vl.ext hb x_61
        have z_57r := Vl.rng S_60 z_57v
        refine pw_stk (st' := [.int (iZ z_57), .ref (A 18)]) rfl ?_
        have c_69 := (o_63 18 (by omega)).trans k_54
        refine pw_callV (As := [.int (iZ z_57)]) (st := []) C (ev_answer g l c_69) my_X3_answer ml_X3_120 (pw_rec.of C c_69 cl_X3.1) rfl ⟨Nat.le_of_ble_eq_true rfl, Nat.le_of_ble_eq_true rfl⟩ ⟨Nat.le_of_ble_eq_true rfl, Nat.le_of_ble_eq_true rfl⟩ rfl (Nat.le_of_ble_eq_true rfl) dX3_applyBase_211 ?_
        rintro _ w_70 ⟨rfl, k_71, o_72⟩
        refine pw_stk (st' := []) rfl ?_
        refine pw_goto (tgt := 410) C dX3_applyBase_214 (by decide) ?_
        refine pw_vret C hr dX3_applyBase_410 ⟨rfl, fun k hk => (o_72 k (by omega)).trans ((o_63 k (by omega)).trans ((o_52 k (by omega)).trans (o_4 k (by omega)))), t_58, n_59, x_61, by omega, ?_⟩
        rw [show baseF (kIx nm) (vs.getD 0 oNil) (vs.getD 1 oNil) = some (.arg ((obAm (vs.getD 0 oNil) + obAm (vs.getD 1 oNil)).toNat)) from by rw [hkc]; exact if_pos (by unfold MOST; omega)]
        exact ⟨K, V, _, _, _, _, q15 _ t_58 n_59 0 1 tm z_57 sc (by rw [k_71, Int.add_sub_cancel]) (S_60.same (fun k h1 h2 => (o_72 k (by omega)))) x_61 (fun j j1 j2 => (o_72 j (by first | assumption | omega)).trans ((o_63 j (by first | assumption | omega)).trans ((o_52 j (by first | assumption | omega)).trans (o_4 j (by first | assumption | omega))))), (fun h => by cases h), (fun _ => ⟨rfl, z_57v⟩), (fun h => by cases h)⟩
      · have h_55 := cmpZ_gt1 h_55
        exfalso; omega
    · have h_50 := cmpZ_gt1 h_50
      refine pw_iconst C dX3_applyBase_180 ?_
      refine pw_goto (tgt := 185) C dX3_applyBase_181 (by decide) ?_
      refine pw_put (j := 6) C cl_X3 fl_X3_32 (by decide) rfl rfl rfl rfl rfl k_6 (Nat.le_of_ble_eq_true rfl) dX3_applyBase_185 (fun w_75 k_73 o_74 => ?_)
      have k_76 : w_75 18 = ((A 18), some (OB 3 [.ref (A 2), .ref (A 16), .ref (A 19), .int (iZ ((((S.length : Nat) : Int) + 1) - 1)), .int (iZ ((fu : Nat) : Int)), .int (iZ ((k : Nat) : Int)), .int (iZ 3), .int (iZ bi), .int (iZ mv), .int (iZ tm), va_rf sc, .int (iZ vl)])) := k_73
      refine pw_aload_n (i := 0) C dX3_applyBase_188 rfl rfl (Or.inr ⟨_, rfl⟩) ?_
      refine pw_lload C dX3_applyBase_189 rfl ?_
      refine pw_ldc2 (z := 4611686018427387903) C kj_X3_157 (by decide) dX3_applyBase_191 ?_
      refine pw_lcmp C (by omega) (by omega) dX3_applyBase_194 ?_
      refine pw_if_le (tgt := 202) C (cmpZ_in _ _) dX3_applyBase_195 (by decide) (fun h_77 => ?_) (fun h_77 => ?_)
      · have h_77 := cmpZ_le1 h_77
        exfalso; omega
      · have h_77 := cmpZ_gt1 h_77
        refine pw_iconst C dX3_applyBase_198 ?_
        refine pw_goto (tgt := 211) C dX3_applyBase_199 (by decide) ?_
        refine pw_callV (As := [.int (iZ 0)]) (st := []) C (ev_answer g l k_76) my_X3_answer ml_X3_120 (pw_rec.of C k_76 cl_X3.1) rfl ⟨Nat.le_of_ble_eq_true rfl, Nat.le_of_ble_eq_true rfl⟩ ⟨Nat.le_of_ble_eq_true rfl, Nat.le_of_ble_eq_true rfl⟩ rfl (Nat.le_of_ble_eq_true rfl) dX3_applyBase_211 ?_
        rintro _ w_78 ⟨rfl, k_79, o_80⟩
        refine pw_stk (st' := []) rfl ?_
        refine pw_goto (tgt := 410) C dX3_applyBase_214 (by decide) ?_
        refine pw_vret C hr dX3_applyBase_410 ⟨rfl, fun k hk => (o_80 k (by omega)).trans ((o_74 k (by omega)).trans (o_4 k (by omega))), t, n, Ext.rf, by omega, ?_⟩
        rw [hkc, show baseF 7 (vs.getD 0 oNil) (vs.getD 1 oNil) = none from if_neg (by unfold MOST; omega)]
        exact ⟨K, V, _, _, _, _, q15 _ t n 3 1 tm 0 sc (by rw [k_79, Int.add_sub_cancel]) (S_49.same (fun k h1 h2 => (o_80 k (by omega)).trans (o_74 k (by omega)))) Ext.rf (fun j j1 j2 => (o_80 j (by first | assumption | omega)).trans ((o_74 j (by first | assumption | omega)).trans (o_4 j (by first | assumption | omega)))), (fun h => by cases h), (fun h => by cases h), (fun h => by cases h)⟩
  by_cases h_81 : zn = 8
  · refine pw_tsIn (tgt := 217) (off := 189) C dX3_applyBase_28 (by omega) (by omega) (by omega) (by rw [h_81]; rfl) (by decide) ?_
    have hkc : kIx nm = 8 := by have := Vl.kix hS q8; split at this <;> omega
    have hvn : (vs.length : Int) = 2 := by rw [hvl, hkc]; rfl
    have ha : Vl t n (f 0) (vs.getD 0 oNil) := VlsI.get 0 q11 (by omega)
    have ha0 := Vl.rng hS ha
    have haa := obAm_in (hS.ok ha)
    have hah := Vl.ht hS ha
    have hb : Vl t n (f 1) (vs.getD 1 oNil) := VlsI.get 1 q11 (by omega)
    have hb0 := Vl.rng hS hb
    have hbb := obAm_in (hS.ok hb)
    have S_82 := hS.same (w' := w_5) (fun k h1 h2 => (o_4 k (by omega)))
    refine pw_aload_n (i := 0) C dX3_applyBase_217 rfl rfl (Or.inr ⟨_, rfl⟩) ?_
    refine pw_aload_n (i := 0) C dX3_applyBase_218 rfl rfl (Or.inr ⟨_, rfl⟩) ?_
    refine pw_get (j := 0) C cl_X3 fl_X3_21 (by decide) rfl k_6 rfl dX3_applyBase_219 ?_
    refine pw_aload_n (i := 0) C dX3_applyBase_222 rfl rfl (Or.inr ⟨_, rfl⟩) ?_
    refine pw_get (j := 0) C cl_X3 fl_X3_21 (by decide) rfl k_6 rfl dX3_applyBase_223 ?_
    refine pw_iload_n (i := 2) C dX3_applyBase_226 rfl rfl ?_
    refine pw_callV (As := [.int (iZ (f 0))]) (st := [.ref (A 2), .ref (A 18)]) C (vr_amount S_82 ha) my_X6_amount ml_X3_153 (S_82.rec C) rfl ⟨Nat.le_of_ble_eq_true rfl, Nat.le_of_ble_eq_true rfl⟩ ⟨Nat.le_of_ble_eq_true rfl, Nat.le_of_ble_eq_true rfl⟩ rfl (Nat.le_of_ble_eq_true rfl) dX3_applyBase_227 ?_
    rintro _ _ ⟨rfl, rfl⟩
    refine pw_stk (st' := [.long (lZ (obAm (vs.getD 0 oNil))), .ref (A 2), .ref (A 18)]) rfl ?_
    refine pw_aload_n (i := 0) C dX3_applyBase_230 rfl rfl (Or.inr ⟨_, rfl⟩) ?_
    refine pw_get (j := 0) C cl_X3 fl_X3_21 (by decide) rfl k_6 rfl dX3_applyBase_231 ?_
    refine pw_iload_n (i := 3) C dX3_applyBase_234 rfl rfl ?_
    refine pw_callV (As := [.int (iZ (f 1))]) (st := [.long (lZ (obAm (vs.getD 0 oNil))), .ref (A 2), .ref (A 18)]) C (vr_amount S_82 hb) my_X6_amount ml_X3_153 (S_82.rec C) rfl ⟨Nat.le_of_ble_eq_true rfl, Nat.le_of_ble_eq_true rfl⟩ ⟨Nat.le_of_ble_eq_true rfl, Nat.le_of_ble_eq_true rfl⟩ rfl (Nat.le_of_ble_eq_true rfl) dX3_applyBase_235 ?_
    rintro _ _ ⟨rfl, rfl⟩
    refine pw_stk (st' := [.long (lZ (obAm (vs.getD 1 oNil))), .long (lZ (obAm (vs.getD 0 oNil))), .ref (A 2), .ref (A 18)]) rfl ?_
    refine pw_lsub C dX3_applyBase_238 ?_
    refine pw_lconst (z := 0) C dX3_applyBase_239 (by decide) ?_
    refine pw_lmax (x := (obAm (vs.getD 0 oNil) - obAm (vs.getD 1 oNil))) (z := 0) (st := [.ref (A 2), .ref (A 18)]) C (by omega) (by omega) ml_X3_163 (Nat.le_of_ble_eq_true rfl) (Nat.le_of_ble_eq_true rfl) ⟨Nat.le_of_ble_eq_true rfl, Nat.le_of_ble_eq_true rfl⟩ dX3_applyBase_240 ?_
    refine pw_stk (st' := [.long (lZ (((obAm (vs.getD 0 oNil) - obAm (vs.getD 1 oNil)).toNat : Nat) : Int)), .ref (A 2), .ref (A 18)]) (by rw [show (((obAm (vs.getD 0 oNil) - obAm (vs.getD 1 oNil)).toNat : Nat) : Int) = (if 0 < (obAm (vs.getD 0 oNil) - obAm (vs.getD 1 oNil)) then (obAm (vs.getD 0 oNil) - obAm (vs.getD 1 oNil)) else 0) from (by split <;> omega)]) ?_
    refine pw_callV (As := [.long (lZ (((obAm (vs.getD 0 oNil) - obAm (vs.getD 1 oNil)).toNat : Nat) : Int))]) (st := [.ref (A 18)]) C (vr_natural S_82 (by omega) (m := (obAm (vs.getD 0 oNil) - obAm (vs.getD 1 oNil)).toNat) (by omega)) my_X6_natural ml_X3_159 (S_82.rec C) rfl ⟨Nat.le_of_ble_eq_true rfl, Nat.le_of_ble_eq_true rfl⟩ ⟨Nat.le_of_ble_eq_true rfl, Nat.le_of_ble_eq_true rfl⟩ rfl (Nat.le_of_ble_eq_true rfl) dX3_applyBase_243 ?_
    rintro _ w_90 ⟨z_83, t_84, n_85, rfl, S_86, x_87, hn_88, z_83v, o_89⟩
    have x_871 := x_87.1
    have v_91 := Vl.ext q8 x_87
    have v_92 := Vl.ext q9 x_87
    have v_93 := Vl.ext ha x_87
    have v_94 := Vl.ext hb x_87
    have z_83r := Vl.rng S_86 z_83v
    refine pw_stk (st' := [.int (iZ z_83), .ref (A 18)]) rfl ?_
    have c_95 := (o_89 18 (by omega)).trans k_6
    refine pw_callV (As := [.int (iZ z_83)]) (st := []) C (ev_answer g l c_95) my_X3_answer ml_X3_120 (pw_rec.of C c_95 cl_X3.1) rfl ⟨Nat.le_of_ble_eq_true rfl, Nat.le_of_ble_eq_true rfl⟩ ⟨Nat.le_of_ble_eq_true rfl, Nat.le_of_ble_eq_true rfl⟩ rfl (Nat.le_of_ble_eq_true rfl) dX3_applyBase_246 ?_
    rintro _ w_96 ⟨rfl, k_97, o_98⟩
    refine pw_stk (st' := []) rfl ?_
    refine pw_goto (tgt := 410) C dX3_applyBase_249 (by decide) ?_
    refine pw_vret C hr dX3_applyBase_410 ⟨rfl, fun k hk => (o_98 k (by omega)).trans ((o_89 k (by omega)).trans (o_4 k (by omega))), t_84, n_85, x_87, by omega, ?_⟩
    rw [show baseF (kIx nm) (vs.getD 0 oNil) (vs.getD 1 oNil) = some (.arg ((obAm (vs.getD 0 oNil) - obAm (vs.getD 1 oNil)).toNat)) from by rw [hkc]; rfl]
    exact ⟨K, V, _, _, _, _, q15 _ t_84 n_85 0 1 tm z_83 sc (by rw [k_97, Int.add_sub_cancel]) (S_86.same (fun k h1 h2 => (o_98 k (by omega)))) x_87 (fun j j1 j2 => (o_98 j (by first | assumption | omega)).trans ((o_89 j (by first | assumption | omega)).trans (o_4 j (by first | assumption | omega)))), (fun h => by cases h), (fun _ => ⟨rfl, z_83v⟩), (fun h => by cases h)⟩
  by_cases h_99 : zn = 9
  · refine pw_tsIn (tgt := 252) (off := 224) C dX3_applyBase_28 (by omega) (by omega) (by omega) (by rw [h_99]; rfl) (by decide) ?_
    have hkc : kIx nm = 9 := by have := Vl.kix hS q8; split at this <;> omega
    have hvn : (vs.length : Int) = 2 := by rw [hvl, hkc]; rfl
    have ha : Vl t n (f 0) (vs.getD 0 oNil) := VlsI.get 0 q11 (by omega)
    have ha0 := Vl.rng hS ha
    have haa := obAm_in (hS.ok ha)
    have hah := Vl.ht hS ha
    have hb : Vl t n (f 1) (vs.getD 1 oNil) := VlsI.get 1 q11 (by omega)
    have hb0 := Vl.rng hS hb
    have hbb := obAm_in (hS.ok hb)
    have S_100 := hS.same (w' := w_5) (fun k h1 h2 => (o_4 k (by omega)))
    refine pw_aload_n (i := 0) C dX3_applyBase_252 rfl rfl (Or.inr ⟨_, rfl⟩) ?_
    refine pw_aload_n (i := 0) C dX3_applyBase_253 rfl rfl (Or.inr ⟨_, rfl⟩) ?_
    refine pw_get (j := 0) C cl_X3 fl_X3_21 (by decide) rfl k_6 rfl dX3_applyBase_254 ?_
    refine pw_iload_n (i := 2) C dX3_applyBase_257 rfl rfl ?_
    refine pw_callV (As := [.int (iZ (f 0))]) (st := [.ref (A 18)]) C (vr_amount S_100 ha) my_X6_amount ml_X3_153 (S_100.rec C) rfl ⟨Nat.le_of_ble_eq_true rfl, Nat.le_of_ble_eq_true rfl⟩ ⟨Nat.le_of_ble_eq_true rfl, Nat.le_of_ble_eq_true rfl⟩ rfl (Nat.le_of_ble_eq_true rfl) dX3_applyBase_258 ?_
    rintro _ _ ⟨rfl, rfl⟩
    refine pw_stk (st' := [.long (lZ (obAm (vs.getD 0 oNil))), .ref (A 18)]) rfl ?_
    refine pw_aload_n (i := 0) C dX3_applyBase_261 rfl rfl (Or.inr ⟨_, rfl⟩) ?_
    refine pw_get (j := 0) C cl_X3 fl_X3_21 (by decide) rfl k_6 rfl dX3_applyBase_262 ?_
    refine pw_iload_n (i := 3) C dX3_applyBase_265 rfl rfl ?_
    refine pw_callV (As := [.int (iZ (f 1))]) (st := [.long (lZ (obAm (vs.getD 0 oNil))), .ref (A 18)]) C (vr_amount S_100 hb) my_X6_amount ml_X3_153 (S_100.rec C) rfl ⟨Nat.le_of_ble_eq_true rfl, Nat.le_of_ble_eq_true rfl⟩ ⟨Nat.le_of_ble_eq_true rfl, Nat.le_of_ble_eq_true rfl⟩ rfl (Nat.le_of_ble_eq_true rfl) dX3_applyBase_266 ?_
    rintro _ _ ⟨rfl, rfl⟩
    refine pw_stk (st' := [.long (lZ (obAm (vs.getD 1 oNil))), .long (lZ (obAm (vs.getD 0 oNil))), .ref (A 18)]) rfl ?_
    refine pw_lcmp C (by omega) (by omega) dX3_applyBase_269 ?_
    refine pw_if_ge (tgt := 277) C (cmpZ_in _ _) dX3_applyBase_270 (by decide) (fun h_101 => ?_) (fun h_101 => ?_)
    · have h_101 := cmpZ_ge1 h_101
      refine pw_iconst C dX3_applyBase_277 ?_
      refine pw_callS (As := [.int (iZ (b2i false))]) (st := [.ref (A 18)]) C (m_X3_truth g l (b := false)) my_X3_truth ml_X3_145 rfl ⟨Nat.le_of_ble_eq_true rfl, Nat.le_of_ble_eq_true rfl⟩ ⟨Nat.le_of_ble_eq_true rfl, Nat.le_of_ble_eq_true rfl⟩ rfl (Nat.le_of_ble_eq_true rfl) dX3_applyBase_278 ?_
      rintro _ _ ⟨rfl, rfl⟩
      refine pw_stk (st' := [.int (iZ (b2i false)), .ref (A 18)]) rfl ?_
      refine pw_callV (As := [.int (iZ (b2i false))]) (st := []) C (ev_answer g l k_6) my_X3_answer ml_X3_120 (pw_rec.of C k_6 cl_X3.1) rfl ⟨Nat.le_of_ble_eq_true rfl, Nat.le_of_ble_eq_true rfl⟩ ⟨Nat.le_of_ble_eq_true rfl, Nat.le_of_ble_eq_true rfl⟩ rfl (Nat.le_of_ble_eq_true rfl) dX3_applyBase_281 ?_
      rintro _ w_102 ⟨rfl, k_103, o_104⟩
      refine pw_stk (st' := []) rfl ?_
      refine pw_goto (tgt := 410) C dX3_applyBase_284 (by decide) ?_
      refine pw_vret C hr dX3_applyBase_410 ⟨rfl, fun k hk => (o_104 k (by omega)).trans (o_4 k (by omega)), t, n, Ext.rf, by omega, ?_⟩
      rw [show baseF (kIx nm) (vs.getD 0 oNil) (vs.getD 1 oNil) = some (trO false) from by rw [hkc]; exact congrArg (fun q => some (trO q)) (decide_eq_false (by omega))]
      exact ⟨K, V, _, _, _, _, q15 _ t n 0 1 tm (b2i false) sc (by rw [k_103, Int.add_sub_cancel]) (S_100.same (fun k h1 h2 => (o_104 k (by omega)))) Ext.rf (fun j j1 j2 => (o_104 j (by first | assumption | omega)).trans (o_4 j (by first | assumption | omega))), (fun h => by cases h), (fun _ => ⟨rfl, (Vl.tr S_100 false)⟩), (fun h => by cases h)⟩
    · have h_101 := cmpZ_lt1 h_101
      refine pw_iconst C dX3_applyBase_273 ?_
      refine pw_goto (tgt := 278) C dX3_applyBase_274 (by decide) ?_
      refine pw_callS (As := [.int (iZ (b2i true))]) (st := [.ref (A 18)]) C (m_X3_truth g l (b := true)) my_X3_truth ml_X3_145 rfl ⟨Nat.le_of_ble_eq_true rfl, Nat.le_of_ble_eq_true rfl⟩ ⟨Nat.le_of_ble_eq_true rfl, Nat.le_of_ble_eq_true rfl⟩ rfl (Nat.le_of_ble_eq_true rfl) dX3_applyBase_278 ?_
      rintro _ _ ⟨rfl, rfl⟩
      refine pw_stk (st' := [.int (iZ (b2i true)), .ref (A 18)]) rfl ?_
      refine pw_callV (As := [.int (iZ (b2i true))]) (st := []) C (ev_answer g l k_6) my_X3_answer ml_X3_120 (pw_rec.of C k_6 cl_X3.1) rfl ⟨Nat.le_of_ble_eq_true rfl, Nat.le_of_ble_eq_true rfl⟩ ⟨Nat.le_of_ble_eq_true rfl, Nat.le_of_ble_eq_true rfl⟩ rfl (Nat.le_of_ble_eq_true rfl) dX3_applyBase_281 ?_
      rintro _ w_105 ⟨rfl, k_106, o_107⟩
      refine pw_stk (st' := []) rfl ?_
      refine pw_goto (tgt := 410) C dX3_applyBase_284 (by decide) ?_
      refine pw_vret C hr dX3_applyBase_410 ⟨rfl, fun k hk => (o_107 k (by omega)).trans (o_4 k (by omega)), t, n, Ext.rf, by omega, ?_⟩
      rw [show baseF (kIx nm) (vs.getD 0 oNil) (vs.getD 1 oNil) = some (trO true) from by rw [hkc]; exact congrArg (fun q => some (trO q)) (decide_eq_true (by omega))]
      exact ⟨K, V, _, _, _, _, q15 _ t n 0 1 tm (b2i true) sc (by rw [k_106, Int.add_sub_cancel]) (S_100.same (fun k h1 h2 => (o_107 k (by omega)))) Ext.rf (fun j j1 j2 => (o_107 j (by first | assumption | omega)).trans (o_4 j (by first | assumption | omega))), (fun h => by cases h), (fun _ => ⟨rfl, (Vl.tr S_100 true)⟩), (fun h => by cases h)⟩
  by_cases h_108 : zn = 10
  · refine pw_tsIn (tgt := 287) (off := 259) C dX3_applyBase_28 (by omega) (by omega) (by omega) (by rw [h_108]; rfl) (by decide) ?_
    have hkc : kIx nm = 10 := by have := Vl.kix hS q8; split at this <;> omega
    have hvn : (vs.length : Int) = 1 := by rw [hvl, hkc]; rfl
    have ha : Vl t n (f 0) (vs.getD 0 oNil) := VlsI.get 0 q11 (by omega)
    have ha0 := Vl.rng hS ha
    have haa := obAm_in (hS.ok ha)
    have hah := Vl.ht hS ha
    have S_109 := hS.same (w' := w_5) (fun k h1 h2 => (o_4 k (by omega)))
    refine pw_aload_n (i := 0) C dX3_applyBase_287 rfl rfl (Or.inr ⟨_, rfl⟩) ?_
    refine pw_aload_n (i := 0) C dX3_applyBase_288 rfl rfl (Or.inr ⟨_, rfl⟩) ?_
    refine pw_get (j := 0) C cl_X3 fl_X3_21 (by decide) rfl k_6 rfl dX3_applyBase_289 ?_
    refine pw_iload_n (i := 2) C dX3_applyBase_292 rfl rfl ?_
    refine pw_callV (As := [.int (iZ (f 0))]) (st := [.ref (A 18)]) C (vr_isPair S_109 ha) my_X6_isPair ml_X3_79 (S_109.rec C) rfl ⟨Nat.le_of_ble_eq_true rfl, Nat.le_of_ble_eq_true rfl⟩ ⟨Nat.le_of_ble_eq_true rfl, Nat.le_of_ble_eq_true rfl⟩ rfl (Nat.le_of_ble_eq_true rfl) dX3_applyBase_293 ?_
    rintro _ _ ⟨rfl, rfl⟩
    refine pw_stk (st' := [.int (iZ (b2i (obP (vs.getD 0 oNil)))), .ref (A 18)]) rfl ?_
    refine pw_callS (As := [.int (iZ (b2i (obP (vs.getD 0 oNil))))]) (st := [.ref (A 18)]) C (m_X3_truth g l (b := obP (vs.getD 0 oNil))) my_X3_truth ml_X3_145 rfl ⟨Nat.le_of_ble_eq_true rfl, Nat.le_of_ble_eq_true rfl⟩ ⟨Nat.le_of_ble_eq_true rfl, Nat.le_of_ble_eq_true rfl⟩ rfl (Nat.le_of_ble_eq_true rfl) dX3_applyBase_296 ?_
    rintro _ _ ⟨rfl, rfl⟩
    refine pw_stk (st' := [.int (iZ (b2i (obP (vs.getD 0 oNil)))), .ref (A 18)]) rfl ?_
    refine pw_callV (As := [.int (iZ (b2i (obP (vs.getD 0 oNil))))]) (st := []) C (ev_answer g l k_6) my_X3_answer ml_X3_120 (pw_rec.of C k_6 cl_X3.1) rfl ⟨Nat.le_of_ble_eq_true rfl, Nat.le_of_ble_eq_true rfl⟩ ⟨Nat.le_of_ble_eq_true rfl, Nat.le_of_ble_eq_true rfl⟩ rfl (Nat.le_of_ble_eq_true rfl) dX3_applyBase_299 ?_
    rintro _ w_110 ⟨rfl, k_111, o_112⟩
    refine pw_stk (st' := []) rfl ?_
    refine pw_goto (tgt := 410) C dX3_applyBase_302 (by decide) ?_
    refine pw_vret C hr dX3_applyBase_410 ⟨rfl, fun k hk => (o_112 k (by omega)).trans (o_4 k (by omega)), t, n, Ext.rf, by omega, ?_⟩
    rw [show baseF (kIx nm) (vs.getD 0 oNil) (vs.getD 1 oNil) = some (trO (obP (vs.getD 0 oNil))) from by rw [hkc]; rfl]
    exact ⟨K, V, _, _, _, _, q15 _ t n 0 1 tm (b2i (obP (vs.getD 0 oNil))) sc (by rw [k_111, Int.add_sub_cancel]) (S_109.same (fun k h1 h2 => (o_112 k (by omega)))) Ext.rf (fun j j1 j2 => (o_112 j (by first | assumption | omega)).trans (o_4 j (by first | assumption | omega))), (fun h => by cases h), (fun _ => ⟨rfl, (Vl.tr S_109 (obP (vs.getD 0 oNil)))⟩), (fun h => by cases h)⟩
  by_cases h_113 : zn = 11
  · refine pw_tsIn (tgt := 305) (off := 277) C dX3_applyBase_28 (by omega) (by omega) (by omega) (by rw [h_113]; rfl) (by decide) ?_
    have hkc : kIx nm = 11 := by have := Vl.kix hS q8; split at this <;> omega
    have hvn : (vs.length : Int) = 1 := by rw [hvl, hkc]; rfl
    have ha : Vl t n (f 0) (vs.getD 0 oNil) := VlsI.get 0 q11 (by omega)
    have ha0 := Vl.rng hS ha
    have haa := obAm_in (hS.ok ha)
    have hah := Vl.ht hS ha
    have S_114 := hS.same (w' := w_5) (fun k h1 h2 => (o_4 k (by omega)))
    refine pw_aload_n (i := 0) C dX3_applyBase_305 rfl rfl (Or.inr ⟨_, rfl⟩) ?_
    refine pw_aload_n (i := 0) C dX3_applyBase_306 rfl rfl (Or.inr ⟨_, rfl⟩) ?_
    refine pw_get (j := 0) C cl_X3 fl_X3_21 (by decide) rfl k_6 rfl dX3_applyBase_307 ?_
    refine pw_iload_n (i := 2) C dX3_applyBase_310 rfl rfl ?_
    refine pw_callV (As := [.int (iZ (f 0))]) (st := [.ref (A 18)]) C (vr_head S_114 ha) my_X6_head ml_X3_85 (S_114.rec C) rfl ⟨Nat.le_of_ble_eq_true rfl, Nat.le_of_ble_eq_true rfl⟩ ⟨Nat.le_of_ble_eq_true rfl, Nat.le_of_ble_eq_true rfl⟩ rfl (Nat.le_of_ble_eq_true rfl) dX3_applyBase_311 ?_
    rintro _ _ ⟨rfl, z_115, rfl, z_115v⟩
    have z_115r := Vl.rng S_114 z_115v
    refine pw_stk (st' := [.int (iZ z_115), .ref (A 18)]) rfl ?_
    refine pw_callV (As := [.int (iZ z_115)]) (st := []) C (ev_answer g l k_6) my_X3_answer ml_X3_120 (pw_rec.of C k_6 cl_X3.1) rfl ⟨Nat.le_of_ble_eq_true rfl, Nat.le_of_ble_eq_true rfl⟩ ⟨Nat.le_of_ble_eq_true rfl, Nat.le_of_ble_eq_true rfl⟩ rfl (Nat.le_of_ble_eq_true rfl) dX3_applyBase_314 ?_
    rintro _ w_116 ⟨rfl, k_117, o_118⟩
    refine pw_stk (st' := []) rfl ?_
    refine pw_goto (tgt := 410) C dX3_applyBase_317 (by decide) ?_
    refine pw_vret C hr dX3_applyBase_410 ⟨rfl, fun k hk => (o_118 k (by omega)).trans (o_4 k (by omega)), t, n, Ext.rf, by omega, ?_⟩
    rw [show baseF (kIx nm) (vs.getD 0 oNil) (vs.getD 1 oNil) = some (obCar (vs.getD 0 oNil)) from by rw [hkc]; rfl]
    exact ⟨K, V, _, _, _, _, q15 _ t n 0 1 tm z_115 sc (by rw [k_117, Int.add_sub_cancel]) (S_114.same (fun k h1 h2 => (o_118 k (by omega)))) Ext.rf (fun j j1 j2 => (o_118 j (by first | assumption | omega)).trans (o_4 j (by first | assumption | omega))), (fun h => by cases h), (fun _ => ⟨rfl, z_115v⟩), (fun h => by cases h)⟩
  by_cases h_119 : zn = 12
  · refine pw_tsIn (tgt := 320) (off := 292) C dX3_applyBase_28 (by omega) (by omega) (by omega) (by rw [h_119]; rfl) (by decide) ?_
    have hkc : kIx nm = 12 := by have := Vl.kix hS q8; split at this <;> omega
    have hvn : (vs.length : Int) = 1 := by rw [hvl, hkc]; rfl
    have ha : Vl t n (f 0) (vs.getD 0 oNil) := VlsI.get 0 q11 (by omega)
    have ha0 := Vl.rng hS ha
    have haa := obAm_in (hS.ok ha)
    have hah := Vl.ht hS ha
    have S_120 := hS.same (w' := w_5) (fun k h1 h2 => (o_4 k (by omega)))
    refine pw_aload_n (i := 0) C dX3_applyBase_320 rfl rfl (Or.inr ⟨_, rfl⟩) ?_
    refine pw_aload_n (i := 0) C dX3_applyBase_321 rfl rfl (Or.inr ⟨_, rfl⟩) ?_
    refine pw_get (j := 0) C cl_X3 fl_X3_21 (by decide) rfl k_6 rfl dX3_applyBase_322 ?_
    refine pw_iload_n (i := 2) C dX3_applyBase_325 rfl rfl ?_
    refine pw_callV (As := [.int (iZ (f 0))]) (st := [.ref (A 18)]) C (vr_tail S_120 ha) my_X6_tail ml_X3_90 (S_120.rec C) rfl ⟨Nat.le_of_ble_eq_true rfl, Nat.le_of_ble_eq_true rfl⟩ ⟨Nat.le_of_ble_eq_true rfl, Nat.le_of_ble_eq_true rfl⟩ rfl (Nat.le_of_ble_eq_true rfl) dX3_applyBase_326 ?_
    rintro _ _ ⟨rfl, z_121, rfl, z_121v⟩
    have z_121r := Vl.rng S_120 z_121v
    refine pw_stk (st' := [.int (iZ z_121), .ref (A 18)]) rfl ?_
    refine pw_callV (As := [.int (iZ z_121)]) (st := []) C (ev_answer g l k_6) my_X3_answer ml_X3_120 (pw_rec.of C k_6 cl_X3.1) rfl ⟨Nat.le_of_ble_eq_true rfl, Nat.le_of_ble_eq_true rfl⟩ ⟨Nat.le_of_ble_eq_true rfl, Nat.le_of_ble_eq_true rfl⟩ rfl (Nat.le_of_ble_eq_true rfl) dX3_applyBase_329 ?_
    rintro _ w_122 ⟨rfl, k_123, o_124⟩
    refine pw_stk (st' := []) rfl ?_
    refine pw_goto (tgt := 410) C dX3_applyBase_332 (by decide) ?_
    refine pw_vret C hr dX3_applyBase_410 ⟨rfl, fun k hk => (o_124 k (by omega)).trans (o_4 k (by omega)), t, n, Ext.rf, by omega, ?_⟩
    rw [show baseF (kIx nm) (vs.getD 0 oNil) (vs.getD 1 oNil) = some (obCdr (vs.getD 0 oNil)) from by rw [hkc]; rfl]
    exact ⟨K, V, _, _, _, _, q15 _ t n 0 1 tm z_121 sc (by rw [k_123, Int.add_sub_cancel]) (S_120.same (fun k h1 h2 => (o_124 k (by omega)))) Ext.rf (fun j j1 j2 => (o_124 j (by first | assumption | omega)).trans (o_4 j (by first | assumption | omega))), (fun h => by cases h), (fun _ => ⟨rfl, z_121v⟩), (fun h => by cases h)⟩
  by_cases h_125 : zn = 13
  · refine pw_tsIn (tgt := 335) (off := 307) C dX3_applyBase_28 (by omega) (by omega) (by omega) (by rw [h_125]; rfl) (by decide) ?_
    have hkc : kIx nm = 13 := by have := Vl.kix hS q8; split at this <;> omega
    have hvn : (vs.length : Int) = 1 := by rw [hvl, hkc]; rfl
    have ha : Vl t n (f 0) (vs.getD 0 oNil) := VlsI.get 0 q11 (by omega)
    have ha0 := Vl.rng hS ha
    have haa := obAm_in (hS.ok ha)
    have hah := Vl.ht hS ha
    have S_126 := hS.same (w' := w_5) (fun k h1 h2 => (o_4 k (by omega)))
    refine pw_aload_n (i := 0) C dX3_applyBase_335 rfl rfl (Or.inr ⟨_, rfl⟩) ?_
    refine pw_aload_n (i := 0) C dX3_applyBase_336 rfl rfl (Or.inr ⟨_, rfl⟩) ?_
    refine pw_get (j := 0) C cl_X3 fl_X3_21 (by decide) rfl k_6 rfl dX3_applyBase_337 ?_
    refine pw_iload_n (i := 2) C dX3_applyBase_340 rfl rfl ?_
    refine pw_callV (As := [.int (iZ (f 0))]) (st := [.ref (A 18)]) C (vr_isNatural S_126 ha) my_X6_isNatural ml_X3_169 (S_126.rec C) rfl ⟨Nat.le_of_ble_eq_true rfl, Nat.le_of_ble_eq_true rfl⟩ ⟨Nat.le_of_ble_eq_true rfl, Nat.le_of_ble_eq_true rfl⟩ rfl (Nat.le_of_ble_eq_true rfl) dX3_applyBase_341 ?_
    rintro _ _ ⟨rfl, rfl⟩
    refine pw_stk (st' := [.int (iZ (b2i (obN (vs.getD 0 oNil)))), .ref (A 18)]) rfl ?_
    refine pw_callS (As := [.int (iZ (b2i (obN (vs.getD 0 oNil))))]) (st := [.ref (A 18)]) C (m_X3_truth g l (b := obN (vs.getD 0 oNil))) my_X3_truth ml_X3_145 rfl ⟨Nat.le_of_ble_eq_true rfl, Nat.le_of_ble_eq_true rfl⟩ ⟨Nat.le_of_ble_eq_true rfl, Nat.le_of_ble_eq_true rfl⟩ rfl (Nat.le_of_ble_eq_true rfl) dX3_applyBase_344 ?_
    rintro _ _ ⟨rfl, rfl⟩
    refine pw_stk (st' := [.int (iZ (b2i (obN (vs.getD 0 oNil)))), .ref (A 18)]) rfl ?_
    refine pw_callV (As := [.int (iZ (b2i (obN (vs.getD 0 oNil))))]) (st := []) C (ev_answer g l k_6) my_X3_answer ml_X3_120 (pw_rec.of C k_6 cl_X3.1) rfl ⟨Nat.le_of_ble_eq_true rfl, Nat.le_of_ble_eq_true rfl⟩ ⟨Nat.le_of_ble_eq_true rfl, Nat.le_of_ble_eq_true rfl⟩ rfl (Nat.le_of_ble_eq_true rfl) dX3_applyBase_347 ?_
    rintro _ w_127 ⟨rfl, k_128, o_129⟩
    refine pw_stk (st' := []) rfl ?_
    refine pw_goto (tgt := 410) C dX3_applyBase_350 (by decide) ?_
    refine pw_vret C hr dX3_applyBase_410 ⟨rfl, fun k hk => (o_129 k (by omega)).trans (o_4 k (by omega)), t, n, Ext.rf, by omega, ?_⟩
    rw [show baseF (kIx nm) (vs.getD 0 oNil) (vs.getD 1 oNil) = some (trO (obN (vs.getD 0 oNil))) from by rw [hkc]; rfl]
    exact ⟨K, V, _, _, _, _, q15 _ t n 0 1 tm (b2i (obN (vs.getD 0 oNil))) sc (by rw [k_128, Int.add_sub_cancel]) (S_126.same (fun k h1 h2 => (o_129 k (by omega)))) Ext.rf (fun j j1 j2 => (o_129 j (by first | assumption | omega)).trans (o_4 j (by first | assumption | omega))), (fun h => by cases h), (fun _ => ⟨rfl, (Vl.tr S_126 (obN (vs.getD 0 oNil)))⟩), (fun h => by cases h)⟩
  by_cases h_130 : zn = 14
  · refine pw_tsIn (tgt := 353) (off := 325) C dX3_applyBase_28 (by omega) (by omega) (by omega) (by rw [h_130]; rfl) (by decide) ?_
    have hkc : kIx nm = 14 := by have := Vl.kix hS q8; split at this <;> omega
    have hvn : (vs.length : Int) = 1 := by rw [hvl, hkc]; rfl
    have ha : Vl t n (f 0) (vs.getD 0 oNil) := VlsI.get 0 q11 (by omega)
    have ha0 := Vl.rng hS ha
    have haa := obAm_in (hS.ok ha)
    have hah := Vl.ht hS ha
    have S_131 := hS.same (w' := w_5) (fun k h1 h2 => (o_4 k (by omega)))
    refine pw_aload_n (i := 0) C dX3_applyBase_353 rfl rfl (Or.inr ⟨_, rfl⟩) ?_
    refine pw_aload_n (i := 0) C dX3_applyBase_354 rfl rfl (Or.inr ⟨_, rfl⟩) ?_
    refine pw_get (j := 0) C cl_X3 fl_X3_21 (by decide) rfl k_6 rfl dX3_applyBase_355 ?_
    refine pw_iload_n (i := 2) C dX3_applyBase_358 rfl rfl ?_
    refine pw_callV (As := [.int (iZ (f 0))]) (st := [.ref (A 18)]) C (vr_isSymbol S_131 ha) my_X6_isSymbol ml_X3_172 (S_131.rec C) rfl ⟨Nat.le_of_ble_eq_true rfl, Nat.le_of_ble_eq_true rfl⟩ ⟨Nat.le_of_ble_eq_true rfl, Nat.le_of_ble_eq_true rfl⟩ rfl (Nat.le_of_ble_eq_true rfl) dX3_applyBase_359 ?_
    rintro _ _ ⟨rfl, rfl⟩
    refine pw_stk (st' := [.int (iZ (b2i (obS (vs.getD 0 oNil)))), .ref (A 18)]) rfl ?_
    refine pw_callS (As := [.int (iZ (b2i (obS (vs.getD 0 oNil))))]) (st := [.ref (A 18)]) C (m_X3_truth g l (b := obS (vs.getD 0 oNil))) my_X3_truth ml_X3_145 rfl ⟨Nat.le_of_ble_eq_true rfl, Nat.le_of_ble_eq_true rfl⟩ ⟨Nat.le_of_ble_eq_true rfl, Nat.le_of_ble_eq_true rfl⟩ rfl (Nat.le_of_ble_eq_true rfl) dX3_applyBase_362 ?_
    rintro _ _ ⟨rfl, rfl⟩
    refine pw_stk (st' := [.int (iZ (b2i (obS (vs.getD 0 oNil)))), .ref (A 18)]) rfl ?_
    refine pw_callV (As := [.int (iZ (b2i (obS (vs.getD 0 oNil))))]) (st := []) C (ev_answer g l k_6) my_X3_answer ml_X3_120 (pw_rec.of C k_6 cl_X3.1) rfl ⟨Nat.le_of_ble_eq_true rfl, Nat.le_of_ble_eq_true rfl⟩ ⟨Nat.le_of_ble_eq_true rfl, Nat.le_of_ble_eq_true rfl⟩ rfl (Nat.le_of_ble_eq_true rfl) dX3_applyBase_365 ?_
    rintro _ w_132 ⟨rfl, k_133, o_134⟩
    refine pw_stk (st' := []) rfl ?_
    refine pw_goto (tgt := 410) C dX3_applyBase_368 (by decide) ?_
    refine pw_vret C hr dX3_applyBase_410 ⟨rfl, fun k hk => (o_134 k (by omega)).trans (o_4 k (by omega)), t, n, Ext.rf, by omega, ?_⟩
    rw [show baseF (kIx nm) (vs.getD 0 oNil) (vs.getD 1 oNil) = some (trO (obS (vs.getD 0 oNil))) from by rw [hkc]; rfl]
    exact ⟨K, V, _, _, _, _, q15 _ t n 0 1 tm (b2i (obS (vs.getD 0 oNil))) sc (by rw [k_133, Int.add_sub_cancel]) (S_131.same (fun k h1 h2 => (o_134 k (by omega)))) Ext.rf (fun j j1 j2 => (o_134 j (by first | assumption | omega)).trans (o_4 j (by first | assumption | omega))), (fun h => by cases h), (fun _ => ⟨rfl, (Vl.tr S_131 (obS (vs.getD 0 oNil)))⟩), (fun h => by cases h)⟩
  by_cases h_135 : zn = 15
  · refine pw_tsIn (tgt := 371) (off := 343) C dX3_applyBase_28 (by omega) (by omega) (by omega) (by rw [h_135]; rfl) (by decide) ?_
    have hkc : kIx nm = 15 := by have := Vl.kix hS q8; split at this <;> omega
    have hvn : (vs.length : Int) = 1 := by rw [hvl, hkc]; rfl
    have ha : Vl t n (f 0) (vs.getD 0 oNil) := VlsI.get 0 q11 (by omega)
    have ha0 := Vl.rng hS ha
    have haa := obAm_in (hS.ok ha)
    have hah := Vl.ht hS ha
    have S_136 := hS.same (w' := w_5) (fun k h1 h2 => (o_4 k (by omega)))
    refine pw_aload_n (i := 0) C dX3_applyBase_371 rfl rfl (Or.inr ⟨_, rfl⟩) ?_
    refine pw_aload_n (i := 0) C dX3_applyBase_372 rfl rfl (Or.inr ⟨_, rfl⟩) ?_
    refine pw_get (j := 0) C cl_X3 fl_X3_21 (by decide) rfl k_6 rfl dX3_applyBase_373 ?_
    refine pw_aload_n (i := 0) C dX3_applyBase_376 rfl rfl (Or.inr ⟨_, rfl⟩) ?_
    refine pw_get (j := 0) C cl_X3 fl_X3_21 (by decide) rfl k_6 rfl dX3_applyBase_377 ?_
    refine pw_iload_n (i := 2) C dX3_applyBase_380 rfl rfl ?_
    refine pw_callV (As := [.int (iZ (f 0))]) (st := [.ref (A 2), .ref (A 18)]) C (vr_heightOf S_136 ha) my_X6_heightOf ml_X3_175 (S_136.rec C) rfl ⟨Nat.le_of_ble_eq_true rfl, Nat.le_of_ble_eq_true rfl⟩ ⟨Nat.le_of_ble_eq_true rfl, Nat.le_of_ble_eq_true rfl⟩ rfl (Nat.le_of_ble_eq_true rfl) dX3_applyBase_381 ?_
    rintro _ _ ⟨rfl, rfl⟩
    refine pw_stk (st' := [.int (iZ (obHt (vs.getD 0 oNil))), .ref (A 2), .ref (A 18)]) rfl ?_
    refine pw_i2l C (by omega) dX3_applyBase_384 ?_
    refine pw_stk (st' := [.long (lZ (((obHt (vs.getD 0 oNil)).toNat : Nat) : Int)), .ref (A 2), .ref (A 18)]) (by rw [show (((obHt (vs.getD 0 oNil)).toNat : Nat) : Int) = obHt (vs.getD 0 oNil) from (by omega)]) ?_
    refine pw_callV (As := [.long (lZ (((obHt (vs.getD 0 oNil)).toNat : Nat) : Int))]) (st := [.ref (A 18)]) C (vr_natural S_136 (by omega) (m := (obHt (vs.getD 0 oNil)).toNat) (by omega)) my_X6_natural ml_X3_159 (S_136.rec C) rfl ⟨Nat.le_of_ble_eq_true rfl, Nat.le_of_ble_eq_true rfl⟩ ⟨Nat.le_of_ble_eq_true rfl, Nat.le_of_ble_eq_true rfl⟩ rfl (Nat.le_of_ble_eq_true rfl) dX3_applyBase_385 ?_
    rintro _ w_144 ⟨z_137, t_138, n_139, rfl, S_140, x_141, hn_142, z_137v, o_143⟩
    have x_1411 := x_141.1
    have v_145 := Vl.ext q8 x_141
    have v_146 := Vl.ext q9 x_141
    have v_147 := Vl.ext ha x_141
    have z_137r := Vl.rng S_140 z_137v
    refine pw_stk (st' := [.int (iZ z_137), .ref (A 18)]) rfl ?_
    have c_148 := (o_143 18 (by omega)).trans k_6
    refine pw_callV (As := [.int (iZ z_137)]) (st := []) C (ev_answer g l c_148) my_X3_answer ml_X3_120 (pw_rec.of C c_148 cl_X3.1) rfl ⟨Nat.le_of_ble_eq_true rfl, Nat.le_of_ble_eq_true rfl⟩ ⟨Nat.le_of_ble_eq_true rfl, Nat.le_of_ble_eq_true rfl⟩ rfl (Nat.le_of_ble_eq_true rfl) dX3_applyBase_388 ?_
    rintro _ w_149 ⟨rfl, k_150, o_151⟩
    refine pw_stk (st' := []) rfl ?_
    refine pw_goto (tgt := 410) C dX3_applyBase_391 (by decide) ?_
    refine pw_vret C hr dX3_applyBase_410 ⟨rfl, fun k hk => (o_151 k (by omega)).trans ((o_143 k (by omega)).trans (o_4 k (by omega))), t_138, n_139, x_141, by omega, ?_⟩
    rw [show baseF (kIx nm) (vs.getD 0 oNil) (vs.getD 1 oNil) = some (.arg ((obHt (vs.getD 0 oNil)).toNat)) from by rw [hkc]; rfl]
    exact ⟨K, V, _, _, _, _, q15 _ t_138 n_139 0 1 tm z_137 sc (by rw [k_150, Int.add_sub_cancel]) (S_140.same (fun k h1 h2 => (o_151 k (by omega)))) x_141 (fun j j1 j2 => (o_151 j (by first | assumption | omega)).trans ((o_143 j (by first | assumption | omega)).trans (o_4 j (by first | assumption | omega)))), (fun h => by cases h), (fun _ => ⟨rfl, z_137v⟩), (fun h => by cases h)⟩
  refine pw_tsOut (tgt := 394) C dX3_applyBase_28 (by omega) (by omega) (by decide) ?_
  have hkc : kIx nm = 16 := by have := Vl.kix hS q8; split at this <;> omega
  have hvn : (vs.length : Int) = 1 := by rw [hvl, hkc]; rfl
  have ha : Vl t n (f 0) (vs.getD 0 oNil) := VlsI.get 0 q11 (by omega)
  have ha0 := Vl.rng hS ha
  have haa := obAm_in (hS.ok ha)
  have hah := Vl.ht hS ha
  have S_152 := hS.same (w' := w_5) (fun k h1 h2 => (o_4 k (by omega)))
  refine pw_aload_n (i := 0) C dX3_applyBase_394 rfl rfl (Or.inr ⟨_, rfl⟩) ?_
  refine pw_iload_n (i := 2) C dX3_applyBase_395 rfl rfl ?_
  refine pw_if_ne (tgt := 403) C (by omega) dX3_applyBase_396 (by decide) (fun h_153 => ?_) (fun h_153 => ?_)
  · refine pw_iconst C dX3_applyBase_403 ?_
    refine pw_callS (As := [.int (iZ (b2i false))]) (st := [.ref (A 18)]) C (m_X3_truth g l (b := false)) my_X3_truth ml_X3_145 rfl ⟨Nat.le_of_ble_eq_true rfl, Nat.le_of_ble_eq_true rfl⟩ ⟨Nat.le_of_ble_eq_true rfl, Nat.le_of_ble_eq_true rfl⟩ rfl (Nat.le_of_ble_eq_true rfl) dX3_applyBase_404 ?_
    rintro _ _ ⟨rfl, rfl⟩
    refine pw_stk (st' := [.int (iZ (b2i false)), .ref (A 18)]) rfl ?_
    refine pw_callV (As := [.int (iZ (b2i false))]) (st := []) C (ev_answer g l k_6) my_X3_answer ml_X3_120 (pw_rec.of C k_6 cl_X3.1) rfl ⟨Nat.le_of_ble_eq_true rfl, Nat.le_of_ble_eq_true rfl⟩ ⟨Nat.le_of_ble_eq_true rfl, Nat.le_of_ble_eq_true rfl⟩ rfl (Nat.le_of_ble_eq_true rfl) dX3_applyBase_407 ?_
    rintro _ w_154 ⟨rfl, k_155, o_156⟩
    refine pw_stk (st' := []) rfl ?_
    refine pw_vret C hr dX3_applyBase_410 ⟨rfl, fun k hk => (o_156 k (by omega)).trans (o_4 k (by omega)), t, n, Ext.rf, by omega, ?_⟩
    rw [show baseF (kIx nm) (vs.getD 0 oNil) (vs.getD 1 oNil) = some (trO false) from by rw [hkc]; exact congrArg (fun q => some (trO q)) (decide_eq_false (fun q => absurd ((Vl.isnil hS ha).mpr q) (by omega)))]
    exact ⟨K, V, _, _, _, _, q15 _ t n 0 1 tm (b2i false) sc (by rw [k_155, Int.add_sub_cancel]) (S_152.same (fun k h1 h2 => (o_156 k (by omega)))) Ext.rf (fun j j1 j2 => (o_156 j (by first | assumption | omega)).trans (o_4 j (by first | assumption | omega))), (fun h => by cases h), (fun _ => ⟨rfl, (Vl.tr S_152 false)⟩), (fun h => by cases h)⟩
  · refine pw_iconst C dX3_applyBase_399 ?_
    refine pw_goto (tgt := 404) C dX3_applyBase_400 (by decide) ?_
    refine pw_callS (As := [.int (iZ (b2i true))]) (st := [.ref (A 18)]) C (m_X3_truth g l (b := true)) my_X3_truth ml_X3_145 rfl ⟨Nat.le_of_ble_eq_true rfl, Nat.le_of_ble_eq_true rfl⟩ ⟨Nat.le_of_ble_eq_true rfl, Nat.le_of_ble_eq_true rfl⟩ rfl (Nat.le_of_ble_eq_true rfl) dX3_applyBase_404 ?_
    rintro _ _ ⟨rfl, rfl⟩
    refine pw_stk (st' := [.int (iZ (b2i true)), .ref (A 18)]) rfl ?_
    refine pw_callV (As := [.int (iZ (b2i true))]) (st := []) C (ev_answer g l k_6) my_X3_answer ml_X3_120 (pw_rec.of C k_6 cl_X3.1) rfl ⟨Nat.le_of_ble_eq_true rfl, Nat.le_of_ble_eq_true rfl⟩ ⟨Nat.le_of_ble_eq_true rfl, Nat.le_of_ble_eq_true rfl⟩ rfl (Nat.le_of_ble_eq_true rfl) dX3_applyBase_407 ?_
    rintro _ w_157 ⟨rfl, k_158, o_159⟩
    refine pw_stk (st' := []) rfl ?_
    refine pw_vret C hr dX3_applyBase_410 ⟨rfl, fun k hk => (o_159 k (by omega)).trans (o_4 k (by omega)), t, n, Ext.rf, by omega, ?_⟩
    rw [show baseF (kIx nm) (vs.getD 0 oNil) (vs.getD 1 oNil) = some (trO true) from by rw [hkc]; exact congrArg (fun q => some (trO q)) (decide_eq_true ((Vl.isnil hS ha).mp (by omega)))]
    exact ⟨K, V, _, _, _, _, q15 _ t n 0 1 tm (b2i true) sc (by rw [k_158, Int.add_sub_cancel]) (S_152.same (fun k h1 h2 => (o_159 k (by omega)))) Ext.rf (fun j j1 j2 => (o_159 j (by first | assumption | omega)).trans (o_4 j (by first | assumption | omega))), (fun h => by cases h), (fun _ => ⟨rfl, (Vl.tr S_152 true)⟩), (fun h => by cases h)⟩

