theorem atx_n {x : Ob} (h : obN x = true) : atx x = dgs (obAm x) := by cases x <;> simp_all [obN, atx, obAm]
theorem atx_s {x : Ob} (h : obN x = false) (hp : obP x = false) (hk : obOk x) : atx x = lts (obSp x) := by cases x <;> simp_all [obN, obP, atx, obSp, obOk]
theorem obAm_in {x : Ob} (hk : obOk x) : 0 ≤ obAm x ∧ obAm x < 4611686018427387904 := by cases x <;> simp_all [obOk, obAm] <;> omega
theorem obSp_in {x : Ob} (hk : obOk x) : 0 ≤ obSp x ∧ obSp x < 4611686018427387904 := by cases x <;> simp_all [obOk, obSp] <;> omega
set_option maxRecDepth 100000 in
set_option maxHeartbeats 4000000 in
/-- putAtom -/
theorem m_X7_putAtom (g : pw_P) (l : Launch) {w : pw_W} {a b cap : Nat} {t : Int → Ob} {n : Int} {L rs : List Int} (hS : SB g w b cap t n) (hT : TO g w a b L rs) {x : Int} (hx : 0 ≤ x ∧ x < n) (hp : obP (t x) = false) : pw_M g l yX7_putAtom cX7_putAtom 2 none { frames := 5, cells := 0, slots := 0, locals := 109 } [.ref a, .int (iZ x)] w (fun r w' => r = none ∧ TO g w' a b (L ++ atx (t x)) rs ∧ fr13 w w') := by
  refine pw_M.of (by decide) (Nat.le_of_ble_eq_true rfl) rfl ?_
  intro p e s m args below meth c C hr hn
  have hk := hS.2.2 x hx.1 hx.2
  have hn0 := hS.n
  have hk1 := obAm_in hk
  have hk2 := obSp_in hk
  obtain ⟨c1, d1, xa1, xb1, fa1, fb1, ka1, kb1, kc1, kd1, ke1, kf1, kg1, kh1, ki1⟩ := id hT
  have kj1 := kf1.in
  refine pw_aload_n (i := 0) C dX7_putAtom_0 rfl rfl (Or.inr ⟨_, rfl⟩) ?_
  refine pw_get (j := 0) C cl_X7 fl_X7_19 (by decide) rfl ka1 rfl dX7_putAtom_1 ?_
  refine pw_iload_n (i := 1) C dX7_putAtom_4 rfl rfl ?_
  refine pw_callV (As := [.int (iZ x)]) (st := []) C (tr_isNatural hS.1 hS.2.1 (by omega)) my_X6_isNatural ml_X7_67 (hS.rec C) rfl ⟨by decide, by decide⟩ ⟨Nat.le_of_ble_eq_true rfl, Nat.le_of_ble_eq_true rfl⟩ rfl (Nat.le_of_ble_eq_true rfl) dX7_putAtom_5 ?_
  rintro _ _ ⟨rfl, rfl⟩
  refine pw_stk (st' := [.int (iZ (b2i (obN (t x))))]) rfl ?_
  refine pw_if_eqB (tgt := 26) C dX7_putAtom_8 (by decide) (fun h_1 => ?_) (fun h_1 => ?_)
  · refine pw_aload_n (i := 0) C dX7_putAtom_26 rfl rfl (Or.inr ⟨_, rfl⟩) ?_
    refine pw_aload_n (i := 0) C dX7_putAtom_27 rfl rfl (Or.inr ⟨_, rfl⟩) ?_
    refine pw_get (j := 0) C cl_X7 fl_X7_19 (by decide) rfl ka1 rfl dX7_putAtom_28 ?_
    refine pw_iload_n (i := 1) C dX7_putAtom_31 rfl rfl ?_
    refine pw_callV (As := [.int (iZ x)]) (st := [.ref a]) C (tr_spelling hS.1 hS.2.1 (by omega)) my_X6_spelling ml_X7_78 (hS.rec C) rfl ⟨by decide, by decide⟩ ⟨Nat.le_of_ble_eq_true rfl, Nat.le_of_ble_eq_true rfl⟩ rfl (Nat.le_of_ble_eq_true rfl) dX7_putAtom_32 ?_
    rintro _ _ ⟨rfl, rfl⟩
    refine pw_stk (st' := [.long (lZ (obSp (t x))), .ref a]) rfl ?_
    refine pw_callV (As := [.long (lZ (obSp (t x)))]) (st := []) C (m_X7_putSymbol g l hT (by omega)) my_X7_putSymbol ml_X7_81 (hT.rec C) rfl ⟨by decide, by decide⟩ ⟨Nat.le_of_ble_eq_true rfl, Nat.le_of_ble_eq_true rfl⟩ rfl (Nat.le_of_ble_eq_true rfl) dX7_putAtom_35 ?_
    rintro _ w_2 ⟨rfl, T_3, o_4⟩
    have S_5 := hS.same (w' := w_2) (fun k h1 h2 => o_4 k (by omega))
    refine pw_stk (st' := []) rfl ?_
    obtain ⟨c2, d2, xa2, xb2, fa2, fb2, ka2, kb2, kc2, kd2, ke2, kf2, kg2, kh2, ki2⟩ := id T_3
    have kj2 := kf2.in
    exact pw_vret C hr dX7_putAtom_38 ⟨rfl, by rw [atx_s h_1 hp hk]; exact T_3, fun k hk => (o_4 k hk)⟩
  · refine pw_aload_n (i := 0) C dX7_putAtom_11 rfl rfl (Or.inr ⟨_, rfl⟩) ?_
    refine pw_aload_n (i := 0) C dX7_putAtom_12 rfl rfl (Or.inr ⟨_, rfl⟩) ?_
    refine pw_get (j := 0) C cl_X7 fl_X7_19 (by decide) rfl ka1 rfl dX7_putAtom_13 ?_
    refine pw_iload_n (i := 1) C dX7_putAtom_16 rfl rfl ?_
    refine pw_callV (As := [.int (iZ x)]) (st := [.ref a]) C (tr_amount hS.1 hS.2.1 (by omega)) my_X6_amount ml_X7_70 (hS.rec C) rfl ⟨by decide, by decide⟩ ⟨Nat.le_of_ble_eq_true rfl, Nat.le_of_ble_eq_true rfl⟩ rfl (Nat.le_of_ble_eq_true rfl) dX7_putAtom_17 ?_
    rintro _ _ ⟨rfl, rfl⟩
    refine pw_stk (st' := [.long (lZ (obAm (t x))), .ref a]) rfl ?_
    refine pw_callV (As := [.long (lZ (obAm (t x)))]) (st := []) C (m_X7_putNatural g l hT (by omega)) my_X7_putNatural ml_X7_74 (hT.rec C) rfl ⟨by decide, by decide⟩ ⟨Nat.le_of_ble_eq_true rfl, Nat.le_of_ble_eq_true rfl⟩ rfl (Nat.le_of_ble_eq_true rfl) dX7_putAtom_20 ?_
    rintro _ w_6 ⟨rfl, T_7, o_8⟩
    have S_9 := hS.same (w' := w_6) (fun k h1 h2 => o_8 k (by omega))
    refine pw_stk (st' := []) rfl ?_
    obtain ⟨c3, d3, xa3, xb3, fa3, fb3, ka3, kb3, kc3, kd3, ke3, kf3, kg3, kh3, ki3⟩ := id T_7
    have kj3 := kf3.in
    refine pw_goto (tgt := 38) C dX7_putAtom_23 (by decide) ?_
    exact pw_vret C hr dX7_putAtom_38 ⟨rfl, by rw [atx_n h_1]; exact T_7, fun k hk => (o_8 k hk)⟩

set_option maxRecDepth 100000 in
set_option maxHeartbeats 4000000 in
/-- beginRest -/
theorem m_X7_beginRest (g : pw_P) (l : Launch) {w : pw_W} {a b cap : Nat} {t : Int → Ob} {n : Int} {L rs : List Int} (hS : SB g w b cap t n) (hT : TO g w a b L rs) {x : Int} (hx : 0 ≤ x ∧ x < n) (hr0 : rs.length < 2000) : pw_M g l yX7_beginRest cX7_beginRest 2 (some .int) { frames := 2, cells := 0, slots := 0, locals := 42 } [.ref a, .int (iZ x)] w (fun r w' => ∃ z y : Int, r = some (.int (iZ z)) ∧ 0 ≤ z ∧ z < n ∧ t z = obCar (t x) ∧ 0 ≤ y ∧ y < n ∧ t y = obCdr (t x) ∧ TO g w' a b L (y :: rs) ∧ fr13 w w') := by
  refine pw_M.of (by decide) (Nat.le_of_ble_eq_true rfl) rfl ?_
  intro p e s m args below meth c C hr hn
  have hn0 := hS.n
  obtain ⟨c4, d4, xa4, xb4, fa4, fb4, ka4, kb4, kc4, kd4, ke4, kf4, kg4, kh4, ki4⟩ := id hT
  have kj4 := kf4.in
  refine pw_aload_n (i := 0) C dX7_beginRest_0 rfl rfl (Or.inr ⟨_, rfl⟩) ?_
  refine pw_get (j := 4) C cl_X7 fl_X7_27 (by decide) rfl ka4 rfl dX7_beginRest_1 ?_
  refine pw_sipush C dX7_beginRest_4 (by decide) ?_
  refine pw_icmp_ge (tgt := 37) C (by omega) (by omega) dX7_beginRest_7 (by decide) (fun h_51 => ?_) (fun h_51 => ?_)
  · exfalso; omega
  · refine pw_aload_n (i := 0) C dX7_beginRest_10 rfl rfl (Or.inr ⟨_, rfl⟩) ?_
    refine pw_get (j := 3) C cl_X7 fl_X7_15 (by decide) rfl ka4 rfl dX7_beginRest_11 ?_
    refine pw_aload_n (i := 0) C dX7_beginRest_14 rfl rfl (Or.inr ⟨_, rfl⟩) ?_
    refine pw_get (j := 4) C cl_X7 fl_X7_27 (by decide) rfl ka4 rfl dX7_beginRest_15 ?_
    refine pw_aload_n (i := 0) C dX7_beginRest_18 rfl rfl (Or.inr ⟨_, rfl⟩) ?_
    refine pw_get (j := 0) C cl_X7 fl_X7_19 (by decide) rfl ka4 rfl dX7_beginRest_19 ?_
    refine pw_iload_n (i := 1) C dX7_beginRest_22 rfl rfl ?_
    refine pw_callV (As := [.int (iZ x)]) (st := [.int (iZ xb4), .ref d4]) C (tr_tail hS.1 hS.2.1 (by omega)) my_X6_tail ml_X7_61 (hS.rec C) rfl ⟨by decide, by decide⟩ ⟨Nat.le_of_ble_eq_true rfl, Nat.le_of_ble_eq_true rfl⟩ rfl (Nat.le_of_ble_eq_true rfl) dX7_beginRest_23 ?_
    rintro _ _ ⟨rfl, z_52, rfl, z_52a, z_52b, e_53⟩
    refine pw_stk (st' := [.int (iZ z_52), .int (iZ xb4), .ref d4]) rfl ?_
    refine pw_iast C kc4 ⟨by omega, by omega, by omega⟩ dX7_beginRest_26 (fun w_56 k_54 o_55 => ?_)
    refine pw_aload_n (i := 0) C dX7_beginRest_27 rfl rfl (Or.inr ⟨_, rfl⟩) ?_
    refine pw_dup C dX7_beginRest_28 rfl ?_
    have c_57 := (o_55 13 (by decide)).trans ka4
    refine pw_get (j := 4) C cl_X7 fl_X7_27 (by decide) rfl c_57 rfl dX7_beginRest_29 ?_
    refine pw_iconst C dX7_beginRest_32 ?_
    refine pw_iadd C dX7_beginRest_33 ?_
    refine pw_put (j := 4) C cl_X7 fl_X7_27 (by decide) rfl rfl rfl rfl rfl c_57 (Nat.le_of_ble_eq_true rfl) dX7_beginRest_34 (fun w_60 k_58 o_59 => ?_)
    have k_61 : w_60 13 = (a, some (OB 7 [.ref b, .ref c4, .int (iZ xa4), .ref d4, .int (iZ (xb4 + 1))])) := k_58
    have hS2 := hS.same (w' := w_60) (fun k h1 h2 => (o_59 k (by omega)).trans (o_55 k (by omega)))
    refine pw_aload_n (i := 0) C dX7_beginRest_37 rfl rfl (Or.inr ⟨_, rfl⟩) ?_
    refine pw_get (j := 0) C cl_X7 fl_X7_19 (by decide) rfl k_61 rfl dX7_beginRest_38 ?_
    refine pw_iload_n (i := 1) C dX7_beginRest_41 rfl rfl ?_
    refine pw_callV (As := [.int (iZ x)]) (st := []) C (tr_head hS2.1 hS2.2.1 (by omega)) my_X6_head ml_X7_64 (hS2.rec C) rfl ⟨by decide, by decide⟩ ⟨Nat.le_of_ble_eq_true rfl, Nat.le_of_ble_eq_true rfl⟩ rfl (Nat.le_of_ble_eq_true rfl) dX7_beginRest_42 ?_
    rintro _ _ ⟨rfl, z_62, rfl, z_62a, z_62b, e_63⟩
    refine pw_stk (st' := [.int (iZ z_62)]) rfl ?_
    have c_64 := ((o_59 14 (by decide)).trans (o_55 14 (by decide))).trans kb4
    have c_65 := (o_59 15 (by decide)).trans k_54
    exact pw_iret C hr dX7_beginRest_45 ⟨z_62, z_52, rfl, z_62a, z_62b, e_63, z_52a, z_52b, e_53, ⟨_, _, _, _, _, _, k_61, c_64, c_65, kd4, upz_inI ke4 (by omega), kf4, by rw [kg4]; simp, by rw [kg4]; exact ⟨upz_self _ _ _, StkIs_up _ (Int.le_refl _) kh4⟩, by simp only [List.length_cons]; omega⟩, fun k hk => (o_59 k (by omega)).trans (o_55 k (by omega))⟩

/-- what is left to tell of the open lists -/
def rtx (t : Int → Ob) : List Int → List Int
  | [] => []
  | r :: rs => (otx (t r)).2.1 ++ rtx t rs
/-- what goOn has done: the end, or the next object -/
def GoOn (g : pw_P) (w w' : pw_W) (a b : Nat) (t : Int → Ob) (n : Int) (L rs T : List Int) (k : Nat) (r : Option Value) : Prop :=
  ∃ (z : Int) (M rs' : List Int), r = some (.int (iZ z)) ∧ TO g w' a b (L ++ M) rs' ∧ (∀ q ∈ rs', 0 ≤ q ∧ q < n) ∧ rs'.length ≤ k ∧ fr13 w w' ∧ ((z = -1 ∧ rs' = [] ∧ M = T) ∨ (0 ≤ z ∧ z < n ∧ M ≠ [] ∧ M ++ ((otx (t z)).1 ++ rtx t rs') = T))
theorem otx_pair {x : Ob} (h : obP x = true) : (otx x).2.1 = 32 :: ((otx (obCar x)).1 ++ (otx (obCdr x)).2.1) := by cases x <;> simp_all [obP, otx, obCar, obCdr]
theorem otx_nil : (otx oNil).2.1 = [41] := by simp [otx, oNil]
theorem otx_atom {x : Ob} (h : obP x = false) (hn : x ≠ oNil) : (otx x).2.1 = [32, 46, 32] ++ atx x ++ [41] := by cases x <;> simp_all [obP, otx]
theorem SB_nil {g : pw_P} {w : pw_W} {b cap : Nat} {t : Int → Ob} {n x : Int} (h : SB g w b cap t n) (hx : 0 ≤ x ∧ x < n) : x = 0 ↔ t x = oNil := by
  obtain ⟨-, ⟨σ, h2, -, h3⟩, -⟩ := h
  exact sT_k h3 hx 0 (by decide)
set_option maxRecDepth 100000 in
set_option maxHeartbeats 4000000 in
/-- goOn -/
theorem m_X7_goOn (g : pw_P) (l : Launch) {w : pw_W} {a b cap : Nat} {t : Int → Ob} {n : Int} {L rs : List Int} (hS : SB g w b cap t n) (hT : TO g w a b L rs) (hv : ∀ x ∈ rs, 0 ≤ x ∧ x < n) (hr0 : rs.length ≤ 2000) : pw_M g l yX7_goOn cX7_goOn 2 (some .int) { frames := 6, cells := 0, slots := 0, locals := 130 } [.ref a] w (fun r w' => GoOn g w w' a b t n L rs (rtx t rs) rs.length r) := by
  refine pw_M.of (by decide) (Nat.le_of_ble_eq_true rfl) rfl ?_
  intro p e s m args below meth c C hr hn
  have hn0 := hS.n
  have loop : ∀ (rs0 q : List Int) (w1 : pw_W), TO g w1 a b (L ++ q) rs0 → SB g w1 b cap t n → q ++ rtx t rs0 = rtx t rs → (∀ x ∈ rs0, 0 ≤ x ∧ x < n) → rs0.length ≤ rs.length → fr13 w w1 → pw_G g p l e { frames := 6, cells := 0, slots := 0, locals := 130 } s m args below meth c 2 (pw_Q g below (fun r w' => GoOn g w w' a b t n L rs (rtx t rs) rs.length r) args s { frames := 6, cells := 0, slots := 0, locals := 130 }) 0 0 0 [(0, .ref a)] [] w1 := by
    intro rs0
    induction rs0 with
    | nil =>
      intro q w1 hT1 hS1 hp hv1 hlen hf1
      obtain ⟨c5, d5, xa5, xb5, fa5, fb5, ka5, kb5, kc5, kd5, ke5, kf5, kg5, kh5, ki5⟩ := id hT1
      have kj5 := kf5.in
      refine pw_aload_n (i := 0) C dX7_goOn_0 rfl rfl (Or.inr ⟨_, rfl⟩) ?_
      refine pw_get (j := 4) C cl_X7 fl_X7_27 (by decide) rfl ka5 rfl dX7_goOn_1 ?_
      refine pw_if_le (tgt := 86) C (by omega) dX7_goOn_4 (by decide) (fun h_61 => ?_) (fun h_61 => ?_)
      · refine pw_iconst C dX7_goOn_86 ?_
        exact pw_iret C hr dX7_goOn_87 ⟨-1, q, [], rfl, hT1, fun _ h => absurd h List.not_mem_nil, Nat.zero_le _, hf1, Or.inl ⟨rfl, rfl, by rw [← hp]; simp [rtx]⟩⟩
      · exfalso; simp only [List.length_nil] at *; omega
    | cons x0 rs1 ih =>
      intro q w1 hT1 hS1 hp hv1 hlen hf1
      have hx0 := hv1 x0 List.mem_cons_self
      obtain ⟨c6, d6, xa6, xb6, fa6, fb6, ka6, kb6, kc6, kd6, ke6, kf6, kg6, kh6, ki6⟩ := id hT1
      have kj6 := kf6.in
      refine pw_aload_n (i := 0) C dX7_goOn_0 rfl rfl (Or.inr ⟨_, rfl⟩) ?_
      refine pw_get (j := 4) C cl_X7 fl_X7_27 (by decide) rfl ka6 rfl dX7_goOn_1 ?_
      refine pw_if_le (tgt := 86) C (by omega) dX7_goOn_4 (by decide) (fun h_61 => ?_) (fun h_61 => ?_)
      · exfalso; simp only [List.length_cons] at *; omega
      · refine pw_aload_n (i := 0) C dX7_goOn_7 rfl rfl (Or.inr ⟨_, rfl⟩) ?_
        refine pw_dup C dX7_goOn_8 rfl ?_
        refine pw_get (j := 4) C cl_X7 fl_X7_27 (by decide) rfl ka6 rfl dX7_goOn_9 ?_
        refine pw_iconst C dX7_goOn_12 ?_
        refine pw_isub C dX7_goOn_13 ?_
        refine pw_put (j := 4) C cl_X7 fl_X7_27 (by decide) rfl rfl rfl rfl rfl ka6 (Nat.le_of_ble_eq_true rfl) dX7_goOn_14 (fun w_64 k_62 o_63 => ?_)
        have k_65 : w_64 13 = (a, some (OB 7 [.ref b, .ref c6, .int (iZ xa6), .ref d6, .int (iZ (xb6 - 1))])) := k_62
        refine pw_aload_n (i := 0) C dX7_goOn_17 rfl rfl (Or.inr ⟨_, rfl⟩) ?_
        refine pw_get (j := 3) C cl_X7 fl_X7_15 (by decide) rfl k_65 rfl dX7_goOn_18 ?_
        refine pw_aload_n (i := 0) C dX7_goOn_21 rfl rfl (Or.inr ⟨_, rfl⟩) ?_
        refine pw_get (j := 4) C cl_X7 fl_X7_27 (by decide) rfl k_65 rfl dX7_goOn_22 ?_
        have c_66 := (o_63 15 (by decide)).trans kc6
        have hq0 : xb6 - 1 = (rs1.length : Int) := by rw [kg6]; simp only [List.length_cons]; omega
        refine pw_iald C c_66 ⟨by omega, by omega, by omega⟩ dX7_goOn_25 ?_
        rw [show fb6 (xb6 - 1) = x0 from by rw [hq0]; exact kh6.1]
        refine pw_istore_n (i := 1) (lv' := [(0, .ref a), (1, .int (iZ x0))]) C dX7_goOn_26 rfl (by decide) rfl ?_
        have c_67 := (o_63 14 (by decide)).trans kb6
        have hT2 : TO g w_64 a b (L ++ q) rs1 := ⟨_, _, _, _, _, _, k_65, c_67, c_66, kd6, ke6, kf6, by rw [kg6]; simp only [List.length_cons]; omega, kh6.2, by simp only [List.length_cons] at ki6; omega⟩
        have hS2 := hS1.same (w' := w_64) (fun k h1 h2 => (o_63 k (by omega)))
        obtain ⟨c7, d7, xa7, xb7, fa7, fb7, ka7, kb7, kc7, kd7, ke7, kf7, kg7, kh7, ki7⟩ := id hT2
        have kj7 := kf7.in
        refine pw_aload_n (i := 0) C dX7_goOn_27 rfl rfl (Or.inr ⟨_, rfl⟩) ?_
        refine pw_get (j := 0) C cl_X7 fl_X7_19 (by decide) rfl ka7 rfl dX7_goOn_28 ?_
        refine pw_iload_n (i := 1) C dX7_goOn_31 rfl rfl ?_
        refine pw_callV (As := [.int (iZ x0)]) (st := []) C (tr_isPair hS2.1 hS2.2.1 (by omega)) my_X6_isPair ml_X7_47 (hS2.rec C) rfl ⟨by decide, by decide⟩ ⟨Nat.le_of_ble_eq_true rfl, Nat.le_of_ble_eq_true rfl⟩ rfl (Nat.le_of_ble_eq_true rfl) dX7_goOn_32 ?_
        rintro _ _ ⟨rfl, rfl⟩
        refine pw_stk (st' := [.int (iZ (b2i (obP (t x0))))]) rfl ?_
        refine pw_if_eqB (tgt := 50) C dX7_goOn_35 (by decide) (fun h_68 => ?_) (fun h_68 => ?_)
        · have hpr := h_68
          refine pw_iload_n (i := 1) C dX7_goOn_50 rfl rfl ?_
          refine pw_if_eq (tgt := 77) C (by omega) dX7_goOn_51 (by decide) (fun h_69 => ?_) (fun h_69 => ?_)
          · refine pw_aload_n (i := 0) C dX7_goOn_77 rfl rfl (Or.inr ⟨_, rfl⟩) ?_
            refine pw_bipush C dX7_goOn_78 (by decide) ?_
            refine pw_callV (As := [.int (iZ 41)]) (st := []) C (to_put g l hT2 (by omega)) my_X7_put ml_X7_40 (hT2.rec C) rfl ⟨by decide, by decide⟩ ⟨Nat.le_of_ble_eq_true rfl, Nat.le_of_ble_eq_true rfl⟩ rfl (Nat.le_of_ble_eq_true rfl) dX7_goOn_80 ?_
            rintro _ w_70 ⟨rfl, T_71, o_72⟩
            have S_73 := hS2.same (w' := w_70) (fun k h1 h2 => o_72 k (by omega))
            refine pw_stk (st' := []) rfl ?_
            obtain ⟨c8, d8, xa8, xb8, fa8, fb8, ka8, kb8, kc8, kd8, ke8, kf8, kg8, kh8, ki8⟩ := id T_71
            have kj8 := kf8.in
            refine pw_goto (tgt := 0) C dX7_goOn_83 (by decide) ?_
            refine pw_sub [0] rfl ?_
            refine pw_wide 0 0 (Nat.le_of_ble_eq_true rfl) (Nat.le_of_ble_eq_true rfl) ?_
            exact ih (q ++ [41]) w_70 (by rw [← List.append_assoc]; exact T_71) S_73 (by rw [← hp, rtx, show t x0 = oNil from (SB_nil hS1 hx0).mp (by omega), otx_nil]; simp) (fun x hx => hv1 x (List.mem_cons_of_mem _ hx)) (by simp only [List.length_cons] at hlen; omega) (fun k hk => (((o_72 k hk)).trans (o_63 k (by omega))).trans (hf1 k hk))
          · refine pw_aload_n (i := 0) C dX7_goOn_54 rfl rfl (Or.inr ⟨_, rfl⟩) ?_
            refine pw_bipush C dX7_goOn_55 (by decide) ?_
            refine pw_callV (As := [.int (iZ 32)]) (st := []) C (to_put g l hT2 (by omega)) my_X7_put ml_X7_40 (hT2.rec C) rfl ⟨by decide, by decide⟩ ⟨Nat.le_of_ble_eq_true rfl, Nat.le_of_ble_eq_true rfl⟩ rfl (Nat.le_of_ble_eq_true rfl) dX7_goOn_57 ?_
            rintro _ w_74 ⟨rfl, T_75, o_76⟩
            have S_77 := hS2.same (w' := w_74) (fun k h1 h2 => o_76 k (by omega))
            refine pw_stk (st' := []) rfl ?_
            obtain ⟨c9, d9, xa9, xb9, fa9, fb9, ka9, kb9, kc9, kd9, ke9, kf9, kg9, kh9, ki9⟩ := id T_75
            have kj9 := kf9.in
            refine pw_aload_n (i := 0) C dX7_goOn_60 rfl rfl (Or.inr ⟨_, rfl⟩) ?_
            refine pw_bipush C dX7_goOn_61 (by decide) ?_
            refine pw_callV (As := [.int (iZ 46)]) (st := []) C (to_put g l T_75 (by omega)) my_X7_put ml_X7_40 (T_75.rec C) rfl ⟨by decide, by decide⟩ ⟨Nat.le_of_ble_eq_true rfl, Nat.le_of_ble_eq_true rfl⟩ rfl (Nat.le_of_ble_eq_true rfl) dX7_goOn_63 ?_
            rintro _ w_78 ⟨rfl, T_79, o_80⟩
            have S_81 := S_77.same (w' := w_78) (fun k h1 h2 => o_80 k (by omega))
            refine pw_stk (st' := []) rfl ?_
            obtain ⟨c10, d10, xa10, xb10, fa10, fb10, ka10, kb10, kc10, kd10, ke10, kf10, kg10, kh10, ki10⟩ := id T_79
            have kj10 := kf10.in
            refine pw_aload_n (i := 0) C dX7_goOn_66 rfl rfl (Or.inr ⟨_, rfl⟩) ?_
            refine pw_bipush C dX7_goOn_67 (by decide) ?_
            refine pw_callV (As := [.int (iZ 32)]) (st := []) C (to_put g l T_79 (by omega)) my_X7_put ml_X7_40 (T_79.rec C) rfl ⟨by decide, by decide⟩ ⟨Nat.le_of_ble_eq_true rfl, Nat.le_of_ble_eq_true rfl⟩ rfl (Nat.le_of_ble_eq_true rfl) dX7_goOn_69 ?_
            rintro _ w_82 ⟨rfl, T_83, o_84⟩
            have S_85 := S_81.same (w' := w_82) (fun k h1 h2 => o_84 k (by omega))
            refine pw_stk (st' := []) rfl ?_
            obtain ⟨c11, d11, xa11, xb11, fa11, fb11, ka11, kb11, kc11, kd11, ke11, kf11, kg11, kh11, ki11⟩ := id T_83
            have kj11 := kf11.in
            refine pw_aload_n (i := 0) C dX7_goOn_72 rfl rfl (Or.inr ⟨_, rfl⟩) ?_
            refine pw_iload_n (i := 1) C dX7_goOn_73 rfl rfl ?_
            refine pw_callV (As := [.int (iZ x0)]) (st := []) C (m_X7_putAtom g l S_85 T_83 (by omega) (by assumption)) my_X7_putAtom ml_X7_53 (T_83.rec C) rfl ⟨by decide, by decide⟩ ⟨Nat.le_of_ble_eq_true rfl, Nat.le_of_ble_eq_true rfl⟩ rfl (Nat.le_of_ble_eq_true rfl) dX7_goOn_74 ?_
            rintro _ w_86 ⟨rfl, T_87, o_88⟩
            have S_89 := S_85.same (w' := w_86) (fun k h1 h2 => o_88 k (by omega))
            refine pw_stk (st' := []) rfl ?_
            obtain ⟨c12, d12, xa12, xb12, fa12, fb12, ka12, kb12, kc12, kd12, ke12, kf12, kg12, kh12, ki12⟩ := id T_87
            have kj12 := kf12.in
            refine pw_aload_n (i := 0) C dX7_goOn_77 rfl rfl (Or.inr ⟨_, rfl⟩) ?_
            refine pw_bipush C dX7_goOn_78 (by decide) ?_
            refine pw_callV (As := [.int (iZ 41)]) (st := []) C (to_put g l T_87 (by omega)) my_X7_put ml_X7_40 (T_87.rec C) rfl ⟨by decide, by decide⟩ ⟨Nat.le_of_ble_eq_true rfl, Nat.le_of_ble_eq_true rfl⟩ rfl (Nat.le_of_ble_eq_true rfl) dX7_goOn_80 ?_
            rintro _ w_90 ⟨rfl, T_91, o_92⟩
            have S_93 := S_89.same (w' := w_90) (fun k h1 h2 => o_92 k (by omega))
            refine pw_stk (st' := []) rfl ?_
            obtain ⟨c13, d13, xa13, xb13, fa13, fb13, ka13, kb13, kc13, kd13, ke13, kf13, kg13, kh13, ki13⟩ := id T_91
            have kj13 := kf13.in
            refine pw_goto (tgt := 0) C dX7_goOn_83 (by decide) ?_
            refine pw_sub [0] rfl ?_
            refine pw_wide 0 0 (Nat.le_of_ble_eq_true rfl) (Nat.le_of_ble_eq_true rfl) ?_
            exact ih (q ++ ([32] ++ [46] ++ [32] ++ atx (t x0) ++ [41])) w_90 (by simpa using T_91) S_93 (by rw [← hp, rtx, otx_atom hpr (fun e => absurd ((SB_nil hS1 hx0).mpr e) (by omega))]; simp) (fun x hx => hv1 x (List.mem_cons_of_mem _ hx)) (by simp only [List.length_cons] at hlen; omega) (fun k hk => (((o_92 k hk)).trans (((o_88 k hk)).trans (((o_84 k hk)).trans (((o_80 k hk)).trans (((o_76 k hk)).trans (o_63 k (by omega))))))).trans (hf1 k hk))
        · have hpr := h_68
          refine pw_aload_n (i := 0) C dX7_goOn_38 rfl rfl (Or.inr ⟨_, rfl⟩) ?_
          refine pw_bipush C dX7_goOn_39 (by decide) ?_
          refine pw_callV (As := [.int (iZ 32)]) (st := []) C (to_put g l hT2 (by omega)) my_X7_put ml_X7_40 (hT2.rec C) rfl ⟨by decide, by decide⟩ ⟨Nat.le_of_ble_eq_true rfl, Nat.le_of_ble_eq_true rfl⟩ rfl (Nat.le_of_ble_eq_true rfl) dX7_goOn_41 ?_
          rintro _ w_94 ⟨rfl, T_95, o_96⟩
          have S_97 := hS2.same (w' := w_94) (fun k h1 h2 => o_96 k (by omega))
          refine pw_stk (st' := []) rfl ?_
          obtain ⟨c14, d14, xa14, xb14, fa14, fb14, ka14, kb14, kc14, kd14, ke14, kf14, kg14, kh14, ki14⟩ := id T_95
          have kj14 := kf14.in
          refine pw_aload_n (i := 0) C dX7_goOn_44 rfl rfl (Or.inr ⟨_, rfl⟩) ?_
          refine pw_iload_n (i := 1) C dX7_goOn_45 rfl rfl ?_
          refine pw_callV (As := [.int (iZ x0)]) (st := []) C (m_X7_beginRest g l S_97 T_95 (by omega) (by simp only [List.length_cons] at hlen; omega)) my_X7_beginRest ml_X7_50 (T_95.rec C) rfl ⟨by decide, by decide⟩ ⟨Nat.le_of_ble_eq_true rfl, Nat.le_of_ble_eq_true rfl⟩ rfl (Nat.le_of_ble_eq_true rfl) dX7_goOn_46 ?_
          rintro _ w_98 ⟨z_101, y_102, rfl, z_101a, z_101b, z_101e, y_102a, y_102b, y_102e, T_99, o_100⟩
          refine pw_stk (st' := [.int (iZ z_101)]) rfl ?_
          refine pw_iret C hr dX7_goOn_49 ⟨z_101, q ++ [32], y_102 :: rs1, rfl, by rw [← List.append_assoc]; exact T_99, fun x hx => ?_, by simp only [List.length_cons] at hlen ⊢; omega, fun k hk => (((o_100 k hk)).trans (((o_96 k hk)).trans (o_63 k (by omega)))).trans (hf1 k hk), Or.inr ⟨z_101a, z_101b, by simp, ?_⟩⟩
          · rcases List.mem_cons.mp hx with rfl | hx
            · exact ⟨y_102a, y_102b⟩
            · exact hv1 x (List.mem_cons_of_mem _ hx)
          · rw [← hp, z_101e]
            simp only [rtx, y_102e, otx_pair hpr]
            simp
  exact loop rs [] w (by rw [List.append_nil]; exact hT) hS (by simp) hv (Nat.le_refl _) (fun _ _ => rfl)

theorem otx_q {x : Ob} (h : obQ x = true) : (otx x).1 = 39 :: (otx (obCar (obCdr x))).1 := by
  cases x with
  | add a b =>
    simp only [otx, h, if_true, obCdr]
    cases b <;> simp_all [obQ, obCar, obCdr, obP, otx]
  | _ => simp [obQ, obCar, obCdr, oNil, oQuote, kn, obP] at h
theorem otx_p {x : Ob} (h : obQ x = false) (hp : obP x = true) : (otx x).1 = 40 :: ((otx (obCar x)).1 ++ (otx (obCdr x)).2.1) := by
  cases x <;> simp_all [obP, otx, obCar, obCdr]
theorem otx_a {x : Ob} (hp : obP x = false) : (otx x).1 = atx x := by
  cases x <;> simp_all [obP, otx]
set_option maxRecDepth 100000 in
set_option maxHeartbeats 4000000 in
/-- beginObject -/
theorem m_X7_beginObject (g : pw_P) (l : Launch) {w : pw_W} {a b cap : Nat} {t : Int → Ob} {n : Int} {L rs : List Int} (hS : SB g w b cap t n) (hT : TO g w a b L rs) {x : Int} (hx : 0 ≤ x ∧ x < n) (hv : ∀ q ∈ rs, 0 ≤ q ∧ q < n) (hr0 : rs.length < 2000) : pw_M g l yX7_beginObject cX7_beginObject 2 (some .int) { frames := 7, cells := 0, slots := 0, locals := 151 } [.ref a, .int (iZ x)] w (fun r w' => GoOn g w w' a b t n L rs ((otx (t x)).1 ++ rtx t rs) (rs.length + 1) r) := by
  refine pw_M.of (by decide) (Nat.le_of_ble_eq_true rfl) rfl ?_
  intro p e s m args below meth c C hr hn
  have hn0 := hS.n
  obtain ⟨c15, d15, xa15, xb15, fa15, fb15, ka15, kb15, kc15, kd15, ke15, kf15, kg15, kh15, ki15⟩ := id hT
  have kj15 := kf15.in
  refine pw_aload_n (i := 0) C dX7_beginObject_0 rfl rfl (Or.inr ⟨_, rfl⟩) ?_
  refine pw_get (j := 0) C cl_X7 fl_X7_19 (by decide) rfl ka15 rfl dX7_beginObject_1 ?_
  refine pw_iload_n (i := 1) C dX7_beginObject_4 rfl rfl ?_
  refine pw_callV (As := [.int (iZ x)]) (st := []) C (tr_isQuoted hS.1 hS.2.1 (by omega)) my_X6_isQuoted ml_X7_34 (hS.rec C) rfl ⟨by decide, by decide⟩ ⟨Nat.le_of_ble_eq_true rfl, Nat.le_of_ble_eq_true rfl⟩ rfl (Nat.le_of_ble_eq_true rfl) dX7_beginObject_5 ?_
  rintro _ _ ⟨rfl, rfl⟩
  refine pw_stk (st' := [.int (iZ (b2i (obQ (t x))))]) rfl ?_
  refine pw_if_eqB (tgt := 26) C dX7_beginObject_8 (by decide) (fun h_61 => ?_) (fun h_61 => ?_)
  · have hqr := h_61
    refine pw_aload_n (i := 0) C dX7_beginObject_26 rfl rfl (Or.inr ⟨_, rfl⟩) ?_
    refine pw_get (j := 0) C cl_X7 fl_X7_19 (by decide) rfl ka15 rfl dX7_beginObject_27 ?_
    refine pw_iload_n (i := 1) C dX7_beginObject_30 rfl rfl ?_
    refine pw_callV (As := [.int (iZ x)]) (st := []) C (tr_isPair hS.1 hS.2.1 (by omega)) my_X6_isPair ml_X7_47 (hS.rec C) rfl ⟨by decide, by decide⟩ ⟨Nat.le_of_ble_eq_true rfl, Nat.le_of_ble_eq_true rfl⟩ rfl (Nat.le_of_ble_eq_true rfl) dX7_beginObject_31 ?_
    rintro _ _ ⟨rfl, rfl⟩
    refine pw_stk (st' := [.int (iZ (b2i (obP (t x))))]) rfl ?_
    refine pw_if_eqB (tgt := 49) C dX7_beginObject_34 (by decide) (fun h_62 => ?_) (fun h_62 => ?_)
    · have hpr := h_62
      refine pw_aload_n (i := 0) C dX7_beginObject_49 rfl rfl (Or.inr ⟨_, rfl⟩) ?_
      refine pw_iload_n (i := 1) C dX7_beginObject_50 rfl rfl ?_
      refine pw_callV (As := [.int (iZ x)]) (st := []) C (m_X7_putAtom g l hS hT (by omega) (by assumption)) my_X7_putAtom ml_X7_53 (hT.rec C) rfl ⟨by decide, by decide⟩ ⟨Nat.le_of_ble_eq_true rfl, Nat.le_of_ble_eq_true rfl⟩ rfl (Nat.le_of_ble_eq_true rfl) dX7_beginObject_51 ?_
      rintro _ w_63 ⟨rfl, T_64, o_65⟩
      have S_66 := hS.same (w' := w_63) (fun k h1 h2 => o_65 k (by omega))
      refine pw_stk (st' := []) rfl ?_
      obtain ⟨c16, d16, xa16, xb16, fa16, fb16, ka16, kb16, kc16, kd16, ke16, kf16, kg16, kh16, ki16⟩ := id T_64
      have kj16 := kf16.in
      refine pw_aload_n (i := 0) C dX7_beginObject_54 rfl rfl (Or.inr ⟨_, rfl⟩) ?_
      refine pw_callV (As := []) (st := []) C (m_X7_goOn g l S_66 T_64 hv (by omega)) my_X7_goOn ml_X7_57 (T_64.rec C) rfl ⟨by decide, by decide⟩ ⟨Nat.le_of_ble_eq_true rfl, Nat.le_of_ble_eq_true rfl⟩ rfl (Nat.le_of_ble_eq_true rfl) dX7_beginObject_55 ?_
      rintro _ w_67 ⟨z, M, rs', rfl, g1, g2, g3, g4, g5⟩
      have hG : GoOn g w w_67 a b t n L rs ((otx (t x)).1 ++ rtx t rs) (rs.length + 1) (some (.int (iZ z))) := by
        refine ⟨z, atx (t x) ++ M, rs', rfl, by rw [← List.append_assoc]; exact g1, g2, by omega, fun k hk => (g4 k hk).trans (o_65 k hk), ?_⟩
        rw [otx_a hpr]
        rcases g5 with ⟨h1, h2, h3⟩ | ⟨h1, h2, h3, h4⟩
        · exact Or.inl ⟨h1, h2, by rw [h3]⟩
        · exact Or.inr ⟨h1, h2, fun e => h3 (List.append_eq_nil_iff.mp e).2, by rw [← h4]; simp⟩
      refine pw_stk (st' := [.int (iZ z)]) rfl ?_
      exact pw_iret C hr dX7_beginObject_58 hG
    · have hpr := h_62
      refine pw_aload_n (i := 0) C dX7_beginObject_37 rfl rfl (Or.inr ⟨_, rfl⟩) ?_
      refine pw_bipush C dX7_beginObject_38 (by decide) ?_
      refine pw_callV (As := [.int (iZ 40)]) (st := []) C (to_put g l hT (by omega)) my_X7_put ml_X7_40 (hT.rec C) rfl ⟨by decide, by decide⟩ ⟨Nat.le_of_ble_eq_true rfl, Nat.le_of_ble_eq_true rfl⟩ rfl (Nat.le_of_ble_eq_true rfl) dX7_beginObject_40 ?_
      rintro _ w_68 ⟨rfl, T_69, o_70⟩
      have S_71 := hS.same (w' := w_68) (fun k h1 h2 => o_70 k (by omega))
      refine pw_stk (st' := []) rfl ?_
      obtain ⟨c17, d17, xa17, xb17, fa17, fb17, ka17, kb17, kc17, kd17, ke17, kf17, kg17, kh17, ki17⟩ := id T_69
      have kj17 := kf17.in
      refine pw_aload_n (i := 0) C dX7_beginObject_43 rfl rfl (Or.inr ⟨_, rfl⟩) ?_
      refine pw_iload_n (i := 1) C dX7_beginObject_44 rfl rfl ?_
      refine pw_callV (As := [.int (iZ x)]) (st := []) C (m_X7_beginRest g l S_71 T_69 (by omega) (by omega)) my_X7_beginRest ml_X7_50 (T_69.rec C) rfl ⟨by decide, by decide⟩ ⟨Nat.le_of_ble_eq_true rfl, Nat.le_of_ble_eq_true rfl⟩ rfl (Nat.le_of_ble_eq_true rfl) dX7_beginObject_45 ?_
      rintro _ w_72 ⟨z_75, y_76, rfl, z_75a, z_75b, z_75e, y_76a, y_76b, y_76e, T_73, o_74⟩
      refine pw_stk (st' := [.int (iZ z_75)]) rfl ?_
      refine pw_iret C hr dX7_beginObject_48 ⟨z_75, [40], y_76 :: rs, rfl, T_73, fun q hq => ?_, by simp, fun k hk => ((o_74 k hk)).trans (o_70 k hk), Or.inr ⟨z_75a, z_75b, by simp, by rw [otx_p hqr hpr, z_75e, rtx, y_76e]; simp⟩⟩
      rcases List.mem_cons.mp hq with rfl | hq
      · exact ⟨y_76a, y_76b⟩
      · exact hv q hq
  · have hqr := h_61
    refine pw_aload_n (i := 0) C dX7_beginObject_11 rfl rfl (Or.inr ⟨_, rfl⟩) ?_
    refine pw_bipush C dX7_beginObject_12 (by decide) ?_
    refine pw_callV (As := [.int (iZ 39)]) (st := []) C (to_put g l hT (by omega)) my_X7_put ml_X7_40 (hT.rec C) rfl ⟨by decide, by decide⟩ ⟨Nat.le_of_ble_eq_true rfl, Nat.le_of_ble_eq_true rfl⟩ rfl (Nat.le_of_ble_eq_true rfl) dX7_beginObject_14 ?_
    rintro _ w_77 ⟨rfl, T_78, o_79⟩
    have S_80 := hS.same (w' := w_77) (fun k h1 h2 => o_79 k (by omega))
    refine pw_stk (st' := []) rfl ?_
    obtain ⟨c18, d18, xa18, xb18, fa18, fb18, ka18, kb18, kc18, kd18, ke18, kf18, kg18, kh18, ki18⟩ := id T_78
    have kj18 := kf18.in
    refine pw_aload_n (i := 0) C dX7_beginObject_17 rfl rfl (Or.inr ⟨_, rfl⟩) ?_
    refine pw_get (j := 0) C cl_X7 fl_X7_19 (by decide) rfl ka18 rfl dX7_beginObject_18 ?_
    refine pw_iload_n (i := 1) C dX7_beginObject_21 rfl rfl ?_
    refine pw_callV (As := [.int (iZ x)]) (st := []) C (tr_second S_80.1 S_80.2.1 (by omega)) my_X6_second ml_X7_44 (S_80.rec C) rfl ⟨by decide, by decide⟩ ⟨Nat.le_of_ble_eq_true rfl, Nat.le_of_ble_eq_true rfl⟩ rfl (Nat.le_of_ble_eq_true rfl) dX7_beginObject_22 ?_
    rintro _ _ ⟨rfl, z_81, rfl, z_81a, z_81b, e_82⟩
    refine pw_stk (st' := [.int (iZ z_81)]) rfl ?_
    exact pw_iret C hr dX7_beginObject_25 ⟨z_81, [39], rs, rfl, T_78, hv, Nat.le_succ _, fun k hk => (o_79 k hk), Or.inr ⟨z_81a, z_81b, by simp, by rw [otx_q hqr, e_82]; simp⟩⟩

theorem TO.full {g : pw_P} {w : pw_W} {a b : Nat} {L rs : List Int} (h : TO g w a b L rs) (hn : 2000 ≤ L.length) (M : List Int) : TO g w a b (L ++ M) rs := by
  obtain ⟨c', d, x2, x4, f14, f15, h1, h2, h3, h4, h5, h6, h7⟩ := h
  refine ⟨c', d, x2, x4, f14, f15, h1, h2, h3, h4, h5, h6.full ?_ M, h7⟩
  have := h6.1
  split at this <;> omega
set_option maxRecDepth 100000 in
set_option maxHeartbeats 4000000 in
/-- tell -/
theorem m_X7_tell (g : pw_P) (l : Launch) {w : pw_W} {a b cap : Nat} {t : Int → Ob} {n : Int} {L rs : List Int} (hS : SB g w b cap t n) (hT : TO g w a b L rs) {x : Int} (hx : -1 ≤ x ∧ x < n) : pw_M g l yX7_tell cX7_tell 4 none { frames := 8, cells := 0, slots := 0, locals := 172 } [.ref a, .int (iZ x)] w (fun r w' => r = none ∧ (∃ rs', TO g w' a b (L ++ if x = -1 then [] else (otx (t x)).1) rs') ∧ fr13 w w') := by
  refine pw_M.of (by decide) (Nat.le_of_ble_eq_true rfl) rfl ?_
  intro p e s m args below meth c C hr hn
  have hn0 := hS.n
  have loop : ∀ (m0 : Nat) (i : Int) (q : List Int) (w1 : pw_W) (z : Int) (rs1 : List Int), i + m0 = 2000 → 0 ≤ i → TO g w1 a b (L ++ q) rs1 → SB g w1 b cap t n → fr13 w w1 → (∀ k ∈ rs1, 0 ≤ k ∧ k < n) → (rs1.length : Int) ≤ i → ((z = -1 ∧ q = if x = -1 then [] else (otx (t x)).1) ∨ (0 ≤ z ∧ z < n ∧ i ≤ (q.length : Int) ∧ q ++ ((otx (t z)).1 ++ rtx t rs1) = if x = -1 then [] else (otx (t x)).1)) → pw_G g p l e { frames := 8, cells := 0, slots := 0, locals := 172 } s m args below meth c 4 (pw_Q g below (fun r w' => r = none ∧ (∃ rs', TO g w' a b (L ++ if x = -1 then [] else (otx (t x)).1) rs') ∧ fr13 w w') args s { frames := 8, cells := 0, slots := 0, locals := 172 }) 0 0 9 [(0, .ref a), (1, .int (iZ x)), (2, .int (iZ z)), (3, .int (iZ i))] [] w1 := by
    intro m0
    induction m0 with
    | zero =>
      intro i q w1 z rs1 hi hi0 hT1 hS1 hf1 hv1 hl1 hz
      have hzi : inI z := by rcases hz with ⟨h1, -⟩ | ⟨h1, h2, -⟩ <;> constructor <;> omega
      have hend : True → ∃ rs', TO g w1 a b (L ++ if x = -1 then [] else (otx (t x)).1) rs' := by
        intro _
        rcases hz with ⟨h1, h2⟩ | ⟨h1, h2, h3, h4⟩
        · exact ⟨rs1, by rw [← h2]; exact hT1⟩
        · refine ⟨rs1, ?_⟩
          rw [← h4, ← List.append_assoc]
          exact hT1.full (by simp only [List.length_append]; omega) _
      refine pw_iload_n (i := 3) C dX7_tell_9 rfl rfl ?_
      refine pw_sipush C dX7_tell_10 (by decide) ?_
      refine pw_icmp_ge (tgt := 33) C (by omega) (by omega) dX7_tell_13 (by decide) (fun h_201 => ?_) (fun h_201 => ?_)
      · exact pw_vret C hr dX7_tell_33 ⟨rfl, hend trivial, hf1⟩
      · exfalso; omega
    | succ m0 ih =>
      intro i q w1 z rs1 hi hi0 hT1 hS1 hf1 hv1 hl1 hz
      rcases hz with ⟨hz1, hz2⟩ | ⟨hz0, hz1, hz2, hz3⟩
      · have hend : True → ∃ rs', TO g w1 a b (L ++ if x = -1 then [] else (otx (t x)).1) rs' := fun _ => ⟨rs1, by rw [← hz2]; exact hT1⟩
        subst hz1
        refine pw_iload_n (i := 3) C dX7_tell_9 rfl rfl ?_
        refine pw_sipush C dX7_tell_10 (by decide) ?_
        refine pw_icmp_ge (tgt := 33) C (by omega) (by omega) dX7_tell_13 (by decide) (fun h_301 => ?_) (fun h_301 => ?_)
        · exact pw_vret C hr dX7_tell_33 ⟨rfl, hend trivial, hf1⟩
        · refine pw_iload_n (i := 2) C dX7_tell_16 rfl rfl ?_
          refine pw_iconst C dX7_tell_17 ?_
          refine pw_icmp_eq (tgt := 33) C (by omega) (by omega) dX7_tell_18 (by decide) (fun h_302 => ?_) (fun h_302 => ?_)
          · exact pw_vret C hr dX7_tell_33 ⟨rfl, hend trivial, hf1⟩
          · exfalso; omega
      · have hzi : inI z := by constructor <;> omega
        refine pw_iload_n (i := 3) C dX7_tell_9 rfl rfl ?_
        refine pw_sipush C dX7_tell_10 (by decide) ?_
        refine pw_icmp_ge (tgt := 33) C (by omega) (by omega) dX7_tell_13 (by decide) (fun h_61 => ?_) (fun h_61 => ?_)
        · exfalso; omega
        · refine pw_iload_n (i := 2) C dX7_tell_16 rfl rfl ?_
          refine pw_iconst C dX7_tell_17 ?_
          refine pw_icmp_eq (tgt := 33) C (by omega) (by omega) dX7_tell_18 (by decide) (fun h_62 => ?_) (fun h_62 => ?_)
          · exfalso; omega
          · refine pw_aload_n (i := 0) C dX7_tell_21 rfl rfl (Or.inr ⟨_, rfl⟩) ?_
            refine pw_iload_n (i := 2) C dX7_tell_22 rfl rfl ?_
            refine pw_callV (As := [.int (iZ z)]) (st := []) C (m_X7_beginObject g l hS1 hT1 (x := z) (by omega) hv1 (by omega)) my_X7_beginObject ml_X7_30 (hT1.rec C) rfl ⟨by decide, by decide⟩ ⟨Nat.le_of_ble_eq_true rfl, Nat.le_of_ble_eq_true rfl⟩ rfl (Nat.le_of_ble_eq_true rfl) dX7_tell_23 ?_
            rintro _ w_63 ⟨z2, M, rs2, rfl, g1, g2, g3, g4, g5⟩
            have g6 : inI z2 := by rcases g5 with ⟨h1, -⟩ | ⟨h1, h2, -⟩ <;> constructor <;> omega
            refine pw_stk (st' := [.int (iZ z2)]) rfl ?_
            refine pw_istore_n (i := 2) (lv' := [(0, .ref a), (1, .int (iZ x)), (2, .int (iZ z2)), (3, .int (iZ i))]) C dX7_tell_26 rfl (by decide) rfl ?_
            refine pw_iinc (lv' := [(0, .ref a), (1, .int (iZ x)), (2, .int (iZ z2)), (3, .int (iZ (i + 1)))]) C dX7_tell_27 rfl (by decide) rfl ?_
            refine pw_goto (tgt := 9) C dX7_tell_30 (by decide) ?_
            refine pw_wide 0 0 (Nat.le_of_ble_eq_true rfl) (Nat.le_of_ble_eq_true rfl) ?_
            refine ih (i + 1) (q ++ M) w_63 z2 rs2 (by omega) (by omega) (by rw [← List.append_assoc]; exact g1) (hS1.same (fun k h1 h2 => g4 k (by omega))) (fun k hk => (g4 k hk).trans (hf1 k hk)) g2 (by omega) ?_
            rcases g5 with ⟨h1, h2, h3⟩ | ⟨h1, h2, h3, h4⟩
            · refine Or.inl ⟨h1, ?_⟩
              rw [h3]; exact hz3
            · refine Or.inr ⟨h1, h2, ?_, ?_⟩
              · have : M.length ≠ 0 := fun e => h3 (List.length_eq_zero_iff.mp e)
                simp only [List.length_append]; omega
              · rw [List.append_assoc, h4]; exact hz3
  obtain ⟨c19, d19, xa19, xb19, fa19, fb19, ka19, kb19, kc19, kd19, ke19, kf19, kg19, kh19, ki19⟩ := id hT
  have kj19 := kf19.in
  refine pw_aload_n (i := 0) C dX7_tell_0 rfl rfl (Or.inr ⟨_, rfl⟩) ?_
  refine pw_iconst C dX7_tell_1 ?_
  refine pw_put (j := 4) C cl_X7 fl_X7_27 (by decide) rfl rfl rfl rfl rfl ka19 (Nat.le_of_ble_eq_true rfl) dX7_tell_2 (fun w_403 k_401 o_402 => ?_)
  have k_404 : w_403 13 = (a, some (OB 7 [.ref b, .ref c19, .int (iZ xa19), .ref d19, .int (iZ 0)])) := k_401
  refine pw_iload_n (i := 1) C dX7_tell_5 rfl rfl ?_
  refine pw_istore_n (i := 2) (lv' := [(0, .ref a), (1, .int (iZ x)), (2, .int (iZ x))]) C dX7_tell_6 rfl (by decide) rfl ?_
  refine pw_iconst C dX7_tell_7 ?_
  refine pw_istore_n (i := 3) (lv' := [(0, .ref a), (1, .int (iZ x)), (2, .int (iZ x)), (3, .int (iZ 0))]) C dX7_tell_8 rfl (by decide) rfl ?_
  have c_405 := (o_402 14 (by decide)).trans kb19
  have c_406 := (o_402 15 (by decide)).trans kc19
  have hT2 : TO g w_403 a b L [] := ⟨_, _, _, _, _, _, k_404, c_405, c_406, kd19, ke19, kf19, rfl, trivial, Nat.zero_le _⟩
  refine loop 2000 0 [] w_403 x [] (by omega) (by omega) (by rw [List.append_nil]; exact hT2) (hS.same (fun k h1 h2 => (o_402 k (by omega)))) (fun k hk => (o_402 k (by omega))) (fun _ h => absurd h List.not_mem_nil) (by simp) ?_
  by_cases h : x = -1
  · exact Or.inl ⟨h, by rw [if_pos h]⟩
  · exact Or.inr ⟨by omega, by omega, by simp, by rw [if_neg h]; simp [rtx]⟩

