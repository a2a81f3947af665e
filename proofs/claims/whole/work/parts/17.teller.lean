theorem atx_n {x : Ob} (h : obN x = true) : atx x = dgs (obAm x) := by cases x <;> simp_all [obN, atx, obAm]
theorem atx_s {x : Ob} (h : obN x = false) (hp : obP x = false) (hk : obOk x) : atx x = lts (obSp x) := by cases x <;> simp_all [obN, obP, atx, obSp, obOk]
theorem obAm_in {x : Ob} (hk : obOk x) : 0 ≤ obAm x ∧ obAm x < 4611686018427387904 := by cases x <;> simp_all [obOk, obAm] <;> omega
theorem obSp_in {x : Ob} (hk : obOk x) : 0 ≤ obSp x ∧ obSp x < 4611686018427387904 := by cases x <;> simp_all [obOk, obSp] <;> omega
set_option maxRecDepth 100000 in
set_option maxHeartbeats 4000000 in
/-- putAtom -/
theorem m_X7_putAtom (g : pw_P) (l : Launch) {w : pw_W} {a b cap : Nat} {t : Int → Ob} {n : Int} {L rs : List Int} (hS : SB g w b cap t n) (hT : TO g w a b L rs) {x : Int} (hx : 0 ≤ x ∧ x < n) (hp : obP (t x) = false) : pw_M g l yX7_putAtom cX7_putAtom 2 none { frames := 5, cells := 0, slots := 0, locals := 109 } [.ref a, .int (iZ x)] w (fun r w' => r = none ∧ TO g w' a b (L ++ atx (t x)) rs ∧ fr13 w w') := by
  refine pw_M.of (by decide) (Nat.le_of_ble_eq_true rfl) rfl ?_
  intro p e s m args below meth c C hr hn
  have hk := hS.2.2 x hx.1 hx.2
  have hn0 := hS.n
  have hk1 := obAm_in hk
  have hk2 := obSp_in hk
  obtain ⟨c1, d1, xa1, xb1, fa1, fb1, ka1, kb1, kc1, kd1, ke1, kf1, kg1, kh1, ki1⟩ := id hT
  have kj1 := kf1.in
  refine pw_aload_n (i := 0) C dX7_putAtom_0 rfl rfl (Or.inr ⟨_, rfl⟩) ?_
  refine pw_get (j := 0) C cl_X7 fl_X7_19 (by decide) rfl ka1 rfl dX7_putAtom_1 ?_
  refine pw_iload_n (i := 1) C dX7_putAtom_4 rfl rfl ?_
  refine pw_callV (As := [.int (iZ x)]) (st := []) C (tr_isNatural hS.1 hS.2.1 (by omega)) my_X6_isNatural ml_X7_67 (hS.rec C) rfl ⟨by decide, by decide⟩ ⟨Nat.le_of_ble_eq_true rfl, Nat.le_of_ble_eq_true rfl⟩ rfl (Nat.le_of_ble_eq_true rfl) dX7_putAtom_5 ?_
  rintro _ _ ⟨rfl, rfl⟩
  refine pw_stk (st' := [.int (iZ (b2i (obN (t x))))]) rfl ?_
  refine pw_if_eqB (tgt := 26) C dX7_putAtom_8 (by decide) (fun h_1 => ?_) (fun h_1 => ?_)
  · refine pw_aload_n (i := 0) C dX7_putAtom_26 rfl rfl (Or.inr ⟨_, rfl⟩) ?_
    refine pw_aload_n (i := 0) C dX7_putAtom_27 rfl rfl (Or.inr ⟨_, rfl⟩) ?_
    refine pw_get (j := 0) C cl_X7 fl_X7_19 (by decide) rfl ka1 rfl dX7_putAtom_28 ?_
    refine pw_iload_n (i := 1) C dX7_putAtom_31 rfl rfl ?_
    refine pw_callV (As := [.int (iZ x)]) (st := [.ref a]) C (tr_spelling hS.1 hS.2.1 (by omega)) my_X6_spelling ml_X7_78 (hS.rec C) rfl ⟨by decide, by decide⟩ ⟨Nat.le_of_ble_eq_true rfl, Nat.le_of_ble_eq_true rfl⟩ rfl (Nat.le_of_ble_eq_true rfl) dX7_putAtom_32 ?_
    rintro _ _ ⟨rfl, rfl⟩
    refine pw_stk (st' := [.long (lZ (obSp (t x))), .ref a]) rfl ?_
    refine pw_callV (As := [.long (lZ (obSp (t x)))]) (st := []) C (m_X7_putSymbol g l hT (by omega)) my_X7_putSymbol ml_X7_81 (hT.rec C) rfl ⟨by decide, by decide⟩ ⟨Nat.le_of_ble_eq_true rfl, Nat.le_of_ble_eq_true rfl⟩ rfl (Nat.le_of_ble_eq_true rfl) dX7_putAtom_35 ?_
    rintro _ w_2 ⟨rfl, T_3, o_4⟩
    have S_5 := hS.same (w' := w_2) (fun k h1 h2 => o_4 k (by omega))
    refine pw_stk (st' := []) rfl ?_
    obtain ⟨c2, d2, xa2, xb2, fa2, fb2, ka2, kb2, kc2, kd2, ke2, kf2, kg2, kh2, ki2⟩ := id T_3
    have kj2 := kf2.in
    exact pw_vret C hr dX7_putAtom_38 ⟨rfl, by rw [atx_s h_1 hp hk]; exact T_3, fun k hk => (o_4 k hk)⟩
  · refine pw_aload_n (i := 0) C dX7_putAtom_11 rfl rfl (Or.inr ⟨_, rfl⟩) ?_
    refine pw_aload_n (i := 0) C dX7_putAtom_12 rfl rfl (Or.inr ⟨_, rfl⟩) ?_
    refine pw_get (j := 0) C cl_X7 fl_X7_19 (by decide) rfl ka1 rfl dX7_putAtom_13 ?_
    refine pw_iload_n (i := 1) C dX7_putAtom_16 rfl rfl ?_
    refine pw_callV (As := [.int (iZ x)]) (st := [.ref a]) C (tr_amount hS.1 hS.2.1 (by omega)) my_X6_amount ml_X7_70 (hS.rec C) rfl ⟨by decide, by decide⟩ ⟨Nat.le_of_ble_eq_true rfl, Nat.le_of_ble_eq_true rfl⟩ rfl (Nat.le_of_ble_eq_true rfl) dX7_putAtom_17 ?_
    rintro _ _ ⟨rfl, rfl⟩
    refine pw_stk (st' := [.long (lZ (obAm (t x))), .ref a]) rfl ?_
    refine pw_callV (As := [.long (lZ (obAm (t x)))]) (st := []) C (m_X7_putNatural g l hT (by omega)) my_X7_putNatural ml_X7_74 (hT.rec C) rfl ⟨by decide, by decide⟩ ⟨Nat.le_of_ble_eq_true rfl, Nat.le_of_ble_eq_true rfl⟩ rfl (Nat.le_of_ble_eq_true rfl) dX7_putAtom_20 ?_
    rintro _ w_6 ⟨rfl, T_7, o_8⟩
    have S_9 := hS.same (w' := w_6) (fun k h1 h2 => o_8 k (by omega))
    refine pw_stk (st' := []) rfl ?_
    obtain ⟨c3, d3, xa3, xb3, fa3, fb3, ka3, kb3, kc3, kd3, ke3, kf3, kg3, kh3, ki3⟩ := id T_7
    have kj3 := kf3.in
    refine pw_goto (tgt := 38) C dX7_putAtom_23 (by decide) ?_
    exact pw_vret C hr dX7_putAtom_38 ⟨rfl, by rw [atx_n h_1]; exact T_7, fun k hk => (o_8 k hk)⟩

set_option maxRecDepth 100000 in
set_option maxHeartbeats 4000000 in
/-- beginRest -/
theorem m_X7_beginRest (g : pw_P) (l : Launch) {w : pw_W} {a b cap : Nat} {t : Int → Ob} {n : Int} {L rs : List Int} (hS : SB g w b cap t n) (hT : TO g w a b L rs) {x : Int} (hx : 0 ≤ x ∧ x < n) (hr0 : rs.length < 2000) : pw_M g l yX7_beginRest cX7_beginRest 2 (some .int) { frames := 2, cells := 0, slots := 0, locals := 42 } [.ref a, .int (iZ x)] w (fun r w' => ∃ z y : Int, r = some (.int (iZ z)) ∧ 0 ≤ z ∧ z < n ∧ t z = obCar (t x) ∧ 0 ≤ y ∧ y < n ∧ t y = obCdr (t x) ∧ TO g w' a b L (y :: rs) ∧ fr13 w w') := by
  refine pw_M.of (by decide) (Nat.le_of_ble_eq_true rfl) rfl ?_
  intro p e s m args below meth c C hr hn
  have hn0 := hS.n
  obtain ⟨c4, d4, xa4, xb4, fa4, fb4, ka4, kb4, kc4, kd4, ke4, kf4, kg4, kh4, ki4⟩ := id hT
  have kj4 := kf4.in
  refine pw_aload_n (i := 0) C dX7_beginRest_0 rfl rfl (Or.inr ⟨_, rfl⟩) ?_
  refine pw_get (j := 4) C cl_X7 fl_X7_27 (by decide) rfl ka4 rfl dX7_beginRest_1 ?_
  refine pw_sipush C dX7_beginRest_4 (by decide) ?_
  refine pw_icmp_ge (tgt := 37) C (by omega) (by omega) dX7_beginRest_7 (by decide) (fun h_51 => ?_) (fun h_51 => ?_)
  · exfalso; omega
  · refine pw_aload_n (i := 0) C dX7_beginRest_10 rfl rfl (Or.inr ⟨_, rfl⟩) ?_
    refine pw_get (j := 3) C cl_X7 fl_X7_15 (by decide) rfl ka4 rfl dX7_beginRest_11 ?_
    refine pw_aload_n (i := 0) C dX7_beginRest_14 rfl rfl (Or.inr ⟨_, rfl⟩) ?_
    refine pw_get (j := 4) C cl_X7 fl_X7_27 (by decide) rfl ka4 rfl dX7_beginRest_15 ?_
    refine pw_aload_n (i := 0) C dX7_beginRest_18 rfl rfl (Or.inr ⟨_, rfl⟩) ?_
    refine pw_get (j := 0) C cl_X7 fl_X7_19 (by decide) rfl ka4 rfl dX7_beginRest_19 ?_
    refine pw_iload_n (i := 1) C dX7_beginRest_22 rfl rfl ?_
    refine pw_callV (As := [.int (iZ x)]) (st := [.int (iZ xb4), .ref d4]) C (tr_tail hS.1 hS.2.1 (by omega)) my_X6_tail ml_X7_61 (hS.rec C) rfl ⟨by decide, by decide⟩ ⟨Nat.le_of_ble_eq_true rfl, Nat.le_of_ble_eq_true rfl⟩ rfl (Nat.le_of_ble_eq_true rfl) dX7_beginRest_23 ?_
    rintro _ _ ⟨rfl, z_52, rfl, z_52a, z_52b, e_53⟩
    refine pw_stk (st' := [.int (iZ z_52), .int (iZ xb4), .ref d4]) rfl ?_
    refine pw_iast C kc4 ⟨by omega, by omega, by omega⟩ dX7_beginRest_26 (fun w_56 k_54 o_55 => ?_)
    refine pw_aload_n (i := 0) C dX7_beginRest_27 rfl rfl (Or.inr ⟨_, rfl⟩) ?_
    refine pw_dup C dX7_beginRest_28 rfl ?_
    have c_57 := (o_55 13 (by decide)).trans ka4
    refine pw_get (j := 4) C cl_X7 fl_X7_27 (by decide) rfl c_57 rfl dX7_beginRest_29 ?_
    refine pw_iconst C dX7_beginRest_32 ?_
    refine pw_iadd C dX7_beginRest_33 ?_
    refine pw_put (j := 4) C cl_X7 fl_X7_27 (by decide) rfl rfl rfl rfl rfl c_57 (Nat.le_of_ble_eq_true rfl) dX7_beginRest_34 (fun w_60 k_58 o_59 => ?_)
    have k_61 : w_60 13 = (a, some (OB 7 [.ref b, .ref c4, .int (iZ xa4), .ref d4, .int (iZ (xb4 + 1))])) := k_58
    have hS2 := hS.same (w' := w_60) (fun k h1 h2 => (o_59 k (by omega)).trans (o_55 k (by omega)))
    refine pw_aload_n (i := 0) C dX7_beginRest_37 rfl rfl (Or.inr ⟨_, rfl⟩) ?_
    refine pw_get (j := 0) C cl_X7 fl_X7_19 (by decide) rfl k_61 rfl dX7_beginRest_38 ?_
    refine pw_iload_n (i := 1) C dX7_beginRest_41 rfl rfl ?_
    refine pw_callV (As := [.int (iZ x)]) (st := []) C (tr_head hS2.1 hS2.2.1 (by omega)) my_X6_head ml_X7_64 (hS2.rec C) rfl ⟨by decide, by decide⟩ ⟨Nat.le_of_ble_eq_true rfl, Nat.le_of_ble_eq_true rfl⟩ rfl (Nat.le_of_ble_eq_true rfl) dX7_beginRest_42 ?_
    rintro _ _ ⟨rfl, z_62, rfl, z_62a, z_62b, e_63⟩
    refine pw_stk (st' := [.int (iZ z_62)]) rfl ?_
    have c_64 := ((o_59 14 (by decide)).trans (o_55 14 (by decide))).trans kb4
    have c_65 := (o_59 15 (by decide)).trans k_54
    exact pw_iret C hr dX7_beginRest_45 ⟨z_62, z_52, rfl, z_62a, z_62b, e_63, z_52a, z_52b, e_53, ⟨_, _, _, _, _, _, k_61, c_64, c_65, kd4, upz_inI ke4 (by omega), kf4, by rw [kg4]; simp, by rw [kg4]; exact ⟨upz_self _ _ _, StkIs_up _ (Int.le_refl _) kh4⟩, by simp only [List.length_cons]; omega⟩, fun k hk => (o_59 k (by omega)).trans (o_55 k (by omega))⟩

