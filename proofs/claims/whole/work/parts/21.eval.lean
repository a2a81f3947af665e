theorem mj_s : Cond.static Lib.MathLoose.max_long.x ∈ pw_T := my_J9_max_f86c9.2
theorem mj_c : Cond.code Lib.MathLoose.max_long.x Lib.MathLoose.max_long.code 4 (some .long) ∈ pw_T := my_J9_max_f86c9.1.1
theorem pw_lmax {g : pw_P} {p : Program} {l : Launch} {e : Env} {R : Room} {s : State} {m : MethodId} {args : Array Value} {below : List Frame} {meth : Method} {c : Code} {cc : ByteArray} {nL : Nat} {own : String} {Q : State → Prop} {cells slots pc idx : Nat} {lv : List (Nat × Value)} {st : List Value} {w : pw_W} (C : pw_C g p s m args meth c cc nL own) {x z : Int} (hx : inL x) (hz : inL z) (h1 : Cond.methodLink own idx yJ9_max_f86c9 ∈ pw_T) (hf : 1 ≤ R.frames) (hlo : (st.map fun v => v.category).sum + 15 ≤ R.locals) (hc : cells ≤ R.cells ∧ slots ≤ R.slots) (hd : decode cc pc = .ok (.invokestatic idx, 3))
    (kk : pw_G g p l e R s m args below meth c nL Q cells slots (pc + 3) lv (.long (lZ (if z < x then x else z)) :: st) w) : pw_G g p l e R s m args below meth c nL Q cells slots pc lv (.long (lZ z) :: .long (lZ x) :: st) w := by
  intro ls H locs hl hH hS
  refine va_mmax_long C.1 C.2.1 (by rw [C.2.2.1]; exact hl.1.symm) C.2.2.2.1 (C.2.2.2.2.1 _ h1) (C.2.2.2.2.1 _ mj_s) (C.2.2.2.2.1 _ ma_i) (C.2.2.2.2.1 _ mj_c) hf hlo hc.1 hc.2 hd ?_
  have h := kk ls H locs hl hH hS
  have e : (if lZ z < lZ x then lZ x else lZ z) = lZ (if z < x then x else z) := by
    by_cases hq : z < x
    · rw [if_pos hq, if_pos ((lz_lt hz hx).mpr hq)]
    · rw [if_neg hq, if_neg (fun h => hq ((lz_lt hz hx).mp h))]
  rw [e]
  exact h
set_option maxRecDepth 100000 in
set_option maxHeartbeats 4000000 in
/-- truth -/
theorem m_X3_truth (g : pw_P) (l : Launch) {w : pw_W} {b : Bool} : pw_M g l yX3_truth cX3_truth 1 (some .int) { frames := 0, cells := 0, slots := 0, locals := 0 } [.int (iZ (b2i b))] w (fun r w' => w = w' ∧ r = some (.int (iZ (b2i b)))) := by
  refine pw_M.of (by decide) (Nat.le_of_ble_eq_true rfl) rfl ?_
  intro p e s m args below meth c C hr hn
  refine pw_iload_n (i := 0) C dX3_truth_0 rfl rfl ?_
  refine pw_if_eqB (tgt := 8) C dX3_truth_1 (by decide) (fun h_1 => ?_) (fun h_1 => ?_)
  · refine pw_iconst C dX3_truth_8 ?_
    exact pw_iret C hr dX3_truth_9 ⟨rfl, by rw [h_1]; rfl⟩
  · refine pw_iconst C dX3_truth_4 ?_
    refine pw_goto (tgt := 9) C dX3_truth_5 (by decide) ?_
    exact pw_iret C hr dX3_truth_9 ⟨rfl, by rw [h_1]; rfl⟩

/-- the evaluator in the class -/
abbrev evE (A : Nat → Nat) (op fu sp fa bi mv tm : Int) (sc : Option Nat) (vl : Int) : va_E := OB 3 [.ref (A 2), .ref (A 16), .ref (A 19), .int (iZ op), .int (iZ fu), .int (iZ sp), .int (iZ fa), .int (iZ bi), .int (iZ mv), .int (iZ tm), va_rf sc, .int (iZ vl)]
set_option maxRecDepth 100000 in
set_option maxHeartbeats 4000000 in
/-- evaluateNext -/
theorem m_X3_evaluateNext (g : pw_P) (l : Launch) {A : Nat → Nat} {op fu sp fa bi mv tm vl : Int} {sc : Option Nat} {w : pw_W} (hE : w 18 = (A 18, some (evE A op fu sp fa bi mv tm sc vl))) {x : Int} {oc : Option Nat} : pw_M g l yX3_evaluateNext cX3_evaluateNext 3 none { frames := 0, cells := 0, slots := 0, locals := 0 } [.ref (A 18), .int (iZ x), va_rf oc] w (fun r w' => r = none ∧ w' 18 = (A 18, some (evE A op fu sp fa bi 0 x oc vl)) ∧ ∀ j, j ≠ 18 → w' j = w j) := by
  refine pw_M.of (lv := [(0, .ref (A 18)), (1, .int (iZ x)), (2, va_rf oc)]) (by decide) (by simp [lg_sl, cat_i, cat_r, cat_n, cat_l, va_rf_cat]) (by simp [lv_args, cat_i, cat_r, cat_n, cat_l, va_rf_cat]) ?_
  intro p e s m args below meth c C hr hn
  refine pw_aload_n (i := 0) C dX3_evaluateNext_0 rfl rfl (Or.inr ⟨_, rfl⟩) ?_
  refine pw_iload_n (i := 1) C dX3_evaluateNext_1 rfl rfl ?_
  refine pw_put (j := 9) C cl_X3 fl_X3_107 (by decide) rfl rfl rfl rfl rfl hE (Nat.le_of_ble_eq_true rfl) dX3_evaluateNext_2 (fun w_3 k_1 o_2 => ?_)
  have k_4 : w_3 18 = ((A 18), some (OB 3 [.ref (A 2), .ref (A 16), .ref (A 19), .int (iZ op), .int (iZ fu), .int (iZ sp), .int (iZ fa), .int (iZ bi), .int (iZ mv), .int (iZ x), va_rf sc, .int (iZ vl)])) := k_1
  refine pw_aload_n (i := 0) C dX3_evaluateNext_5 rfl rfl (Or.inr ⟨_, rfl⟩) ?_
  refine pw_aload_n (i := 2) C dX3_evaluateNext_6 rfl rfl (va_rf_or _) ?_
  refine pw_put (j := 10) C cl_X3 fl_X3_45 (by decide) rfl rfl rfl rfl (va_rf_fit _) k_4 (Nat.le_of_ble_eq_true rfl) dX3_evaluateNext_7 (fun w_7 k_5 o_6 => ?_)
  have k_8 : w_7 18 = ((A 18), some (OB 3 [.ref (A 2), .ref (A 16), .ref (A 19), .int (iZ op), .int (iZ fu), .int (iZ sp), .int (iZ fa), .int (iZ bi), .int (iZ mv), .int (iZ x), va_rf oc, .int (iZ vl)])) := k_5
  refine pw_aload_n (i := 0) C dX3_evaluateNext_10 rfl rfl (Or.inr ⟨_, rfl⟩) ?_
  refine pw_iconst C dX3_evaluateNext_11 ?_
  refine pw_put (j := 8) C cl_X3 fl_X3_63 (by decide) rfl rfl rfl rfl rfl k_8 (Nat.le_of_ble_eq_true rfl) dX3_evaluateNext_12 (fun w_11 k_9 o_10 => ?_)
  have k_12 : w_11 18 = ((A 18), some (OB 3 [.ref (A 2), .ref (A 16), .ref (A 19), .int (iZ op), .int (iZ fu), .int (iZ sp), .int (iZ fa), .int (iZ bi), .int (iZ 0), .int (iZ x), va_rf oc, .int (iZ vl)])) := k_9
  exact pw_vret C hr dX3_evaluateNext_15 ⟨rfl, k_12, fun j hj => (o_10 j hj).trans ((o_6 j hj).trans (o_2 j hj))⟩

set_option maxRecDepth 100000 in
set_option maxHeartbeats 4000000 in
/-- answer -/
theorem ev_answer (g : pw_P) (l : Launch) {A : Nat → Nat} {op fu sp fa bi mv tm vl : Int} {sc : Option Nat} {w : pw_W} (hE : w 18 = (A 18, some (evE A op fu sp fa bi mv tm sc vl))) {x : Int} : pw_M g l yX3_answer cX3_answer 2 none { frames := 0, cells := 0, slots := 0, locals := 0 } [.ref (A 18), .int (iZ x)] w (fun r w' => r = none ∧ w' 18 = (A 18, some (evE A op fu sp fa bi 1 tm sc x)) ∧ ∀ j, j ≠ 18 → w' j = w j) := by
  refine pw_M.of (by decide) (Nat.le_of_ble_eq_true rfl) rfl ?_
  intro p e s m args below meth c C hr hn
  refine pw_aload_n (i := 0) C dX3_answer_0 rfl rfl (Or.inr ⟨_, rfl⟩) ?_
  refine pw_iload_n (i := 1) C dX3_answer_1 rfl rfl ?_
  refine pw_put (j := 11) C cl_X3 fl_X3_69 (by decide) rfl rfl rfl rfl rfl hE (Nat.le_of_ble_eq_true rfl) dX3_answer_2 (fun w_3 k_1 o_2 => ?_)
  have k_4 : w_3 18 = ((A 18), some (OB 3 [.ref (A 2), .ref (A 16), .ref (A 19), .int (iZ op), .int (iZ fu), .int (iZ sp), .int (iZ fa), .int (iZ bi), .int (iZ mv), .int (iZ tm), va_rf sc, .int (iZ x)])) := k_1
  refine pw_aload_n (i := 0) C dX3_answer_5 rfl rfl (Or.inr ⟨_, rfl⟩) ?_
  refine pw_iconst C dX3_answer_6 ?_
  refine pw_put (j := 8) C cl_X3 fl_X3_63 (by decide) rfl rfl rfl rfl rfl k_4 (Nat.le_of_ble_eq_true rfl) dX3_answer_7 (fun w_7 k_5 o_6 => ?_)
  have k_8 : w_7 18 = ((A 18), some (OB 3 [.ref (A 2), .ref (A 16), .ref (A 19), .int (iZ op), .int (iZ fu), .int (iZ sp), .int (iZ fa), .int (iZ bi), .int (iZ 1), .int (iZ tm), va_rf sc, .int (iZ x)])) := k_5
  exact pw_vret C hr dX3_answer_10 ⟨rfl, k_8, fun j hj => (o_6 j hj).trans (o_2 j hj)⟩

/-- values in an array -/
def VlsI (t : Int → Ob) (n : Int) (f : Int → Int) : Int → List Ob → Prop
  | _, [] => True
  | i, v :: vs => Vl t n (f i) v ∧ VlsI t n f (i + 1) vs
theorem obLen_car {X : Ob} (h : obP X = false) : obCar X = oNil ∧ obCdr X = oNil := by cases X <;> simp_all [obP, obCar, obCdr]
theorem obLen_p {X : Ob} (h : obP X = true) : obLen X = if obLen (obCdr X) = -1 then -1 else obLen (obCdr X) + 1 := by cases X <;> simp_all [obP, obLen, obCdr] <;> rfl
theorem obLen_np {X : Ob} (h : obP X = false) (h0 : 0 ≤ obLen X) : X = oNil ∧ obLen X = 0 := by
  cases X <;> simp_all [obP, obLen] <;> (split at h0 <;> simp_all)
theorem obLen_nil : obLen oNil = 0 := by simp [obLen, oNil]
theorem obP_nil : obP oNil = false := rfl
theorem zipE_p {X : Ob} {v : Ob} {vs : List Ob} (h : obP X = true) : zipE X (v :: vs) = (obCar X, v) :: zipE (obCdr X) vs := by cases X <;> simp_all [obP, zipE, obCar, obCdr]
theorem zipE_nil (X : Ob) : zipE X [] = [] := by cases X <;> rfl
theorem obV_nil {X : Ob} (h : obV X = true) : X ≠ oNil := by
  intro e; rw [e] at h; exact absurd h (by decide +kernel)
set_option maxRecDepth 100000 in
set_option maxHeartbeats 4000000 in
/-- argumentOf -/
theorem m_X3_argumentOf (g : pw_P) (l : Launch) {A : Nat → Nat} {op fu sp fa bi mv tm vl : Int} {sc : Option Nat} {w : pw_W} (hE : w 18 = (A 18, some (evE A op fu sp fa bi mv tm sc vl))) {cap : Nat} {t : Int → Ob} {n x vc nm rr : Int} {kc kd kv ac ad av : Nat} {os : Option Nat} {en : Bool} {d : Df} {f : Int → Int} {P X : Ob} {vs : List Ob} (hS : SB g w (A 2) cap t n) (hC : w kc = (ac, some (clE av vc nm (some ad) rr os en))) (hd : w kd = (ad, some (dfO d))) (hdI : dfI d) (hv : w kv = (av, some (AI g 6 f))) (hf : ∀ j, inI (f j)) (hX : Vl t n x X) (hXv : obV X = true) (hP : Vl t n d.2.2.1 P) (hl : obLen P = (vs.length : Int)) (hl6 : vs.length ≤ 6) (hvs0 : VlsI t n f 0 vs) : pw_M g l yX3_argumentOf cX3_argumentOf 5 (some .int) { frames := 2, cells := 0, slots := 0, locals := 42 } [.ref (A 18), .ref ac, .int (iZ x)] w (fun r w' => w = w' ∧ ∃ z, r = some (.int (iZ z)) ∧ Vl t n z (eLk (zipE P vs) X)) := by
  refine pw_M.of (by decide) (Nat.le_of_ble_eq_true rfl) rfl ?_
  intro p e s m args below meth c C hr hn
  have hn0 := hS.n
  have hXn := obV_nil hXv
  have hx1 := hX.1
  have hx2 := hX.2.1
  have hpi := hdI.2.2.1
  have base : ∀ (k : Nat) (i y : Int), i + k = 6 → 0 ≤ i → Vl t n y oNil → eLk (zipE oNil []) X = eLk (zipE P vs) X → pw_G g p l e { frames := 2, cells := 0, slots := 0, locals := 42 } s m args below meth c 5 (pw_Q g below (fun r w' => w = w' ∧ ∃ z, r = some (.int (iZ z)) ∧ Vl t n z (eLk (zipE P vs) X)) args s { frames := 2, cells := 0, slots := 0, locals := 42 }) 0 0 22 [(0, .ref (A 18)), (1, .ref ac), (2, .int (iZ x)), (3, .int (iZ y)), (4, .int (iZ i))] [] w := by
    intro k
    induction k with
    | zero =>
      intro i y hi hi0 hy hq
      refine pw_iload C dX3_argumentOf_22 rfl ?_
      refine pw_bipush C dX3_argumentOf_24 (by decide) ?_
      refine pw_icmp_ge (tgt := 64) C (by omega) (by omega) dX3_argumentOf_26 (by decide) (fun h_1 => ?_) (fun h_1 => ?_)
      · refine pw_iconst C dX3_argumentOf_64 ?_
        exact pw_iret C hr dX3_argumentOf_65 ⟨rfl, 0, rfl, by rw [← hq]; exact Vl.nil hS⟩
      · exfalso; omega
    | succ k ih =>
      intro i y hi hi0 hy hq
      have hy1 := hy.1
      have hy2 := hy.2.1
      refine pw_iload C dX3_argumentOf_22 rfl ?_
      refine pw_bipush C dX3_argumentOf_24 (by decide) ?_
      refine pw_icmp_ge (tgt := 64) C (by omega) (by omega) dX3_argumentOf_26 (by decide) (fun h_41 => ?_) (fun h_41 => ?_)
      · exfalso; omega
      · refine pw_aload_n (i := 0) C dX3_argumentOf_29 rfl rfl (Or.inr ⟨_, rfl⟩) ?_
        refine pw_get (j := 0) C cl_X3 fl_X3_21 (by decide) rfl hE rfl dX3_argumentOf_30 ?_
        refine pw_iload_n (i := 3) C dX3_argumentOf_33 rfl rfl ?_
        refine pw_callV (As := [.int (iZ y)]) (st := []) C (vr_head hS hy) my_X6_head ml_X3_85 (hS.rec C) rfl ⟨Nat.le_of_ble_eq_true rfl, Nat.le_of_ble_eq_true rfl⟩ ⟨Nat.le_of_ble_eq_true rfl, Nat.le_of_ble_eq_true rfl⟩ rfl (Nat.le_of_ble_eq_true rfl) dX3_argumentOf_34 ?_
        rintro _ _ ⟨rfl, z_42, rfl, z_42v⟩
        have z_42r := Vl.rng hS z_42v
        refine pw_stk (st' := [.int (iZ z_42)]) rfl ?_
        refine pw_iload_n (i := 2) C dX3_argumentOf_37 rfl rfl ?_
        refine pw_icmp_ne (tgt := 49) C (by omega) (by omega) dX3_argumentOf_38 (by decide) (fun h_43 => ?_) (fun h_43 => ?_)
        · refine pw_aload_n (i := 0) C dX3_argumentOf_49 rfl rfl (Or.inr ⟨_, rfl⟩) ?_
          refine pw_get (j := 0) C cl_X3 fl_X3_21 (by decide) rfl hE rfl dX3_argumentOf_50 ?_
          refine pw_iload_n (i := 3) C dX3_argumentOf_53 rfl rfl ?_
          refine pw_callV (As := [.int (iZ y)]) (st := []) C (vr_tail hS hy) my_X6_tail ml_X3_90 (hS.rec C) rfl ⟨Nat.le_of_ble_eq_true rfl, Nat.le_of_ble_eq_true rfl⟩ ⟨Nat.le_of_ble_eq_true rfl, Nat.le_of_ble_eq_true rfl⟩ rfl (Nat.le_of_ble_eq_true rfl) dX3_argumentOf_54 ?_
          rintro _ _ ⟨rfl, z_44, rfl, z_44v⟩
          have z_44r := Vl.rng hS z_44v
          refine pw_stk (st' := [.int (iZ z_44)]) rfl ?_
          refine pw_istore_n (i := 3) (lv' := [(0, .ref (A 18)), (1, .ref ac), (2, .int (iZ x)), (3, .int (iZ z_44)), (4, .int (iZ i))]) C dX3_argumentOf_57 rfl (by decide) rfl ?_
          refine pw_iinc (lv' := [(0, .ref (A 18)), (1, .ref ac), (2, .int (iZ x)), (3, .int (iZ z_44)), (4, .int (iZ (i + 1)))]) C dX3_argumentOf_58 rfl (by decide) rfl ?_
          refine pw_goto (tgt := 22) C dX3_argumentOf_61 (by decide) ?_
          exact ih (i + 1) _ (by omega) (by omega) z_44v hq
        · exact absurd ((Vl.inj hS z_42v hX).mp (by omega)).symm hXn
  have loop : ∀ (rs : List Ob) (i y : Int) (R0 : Ob), Vl t n y R0 → obLen R0 = (rs.length : Int) → i + rs.length = vs.length → 0 ≤ i → VlsI t n f i rs → eLk (zipE R0 rs) X = eLk (zipE P vs) X → pw_G g p l e { frames := 2, cells := 0, slots := 0, locals := 42 } s m args below meth c 5 (pw_Q g below (fun r w' => w = w' ∧ ∃ z, r = some (.int (iZ z)) ∧ Vl t n z (eLk (zipE P vs) X)) args s { frames := 2, cells := 0, slots := 0, locals := 42 }) 0 0 22 [(0, .ref (A 18)), (1, .ref ac), (2, .int (iZ x)), (3, .int (iZ y)), (4, .int (iZ i))] [] w := by
    intro rs
    induction rs with
    | nil =>
      intro i y R0 hy hlr hi hi0 hvs hq
      have hR : obP R0 = false := by
        cases hb : obP R0 with
        | false => rfl
        | true =>
          have h1 := obLen_p hb
          have h2 := obLen_ge (obCdr R0)
          simp only [List.length_nil] at hlr
          split at h1 <;> omega
      have hRn := (obLen_np hR (by simp only [List.length_nil] at hlr; omega)).1
      subst hRn
      exact base (6 - vs.length) i y (by simp only [List.length_nil] at hi; omega) (by simp only [List.length_nil] at hi; omega) hy hq
    | cons v rs ih =>
      intro i y R0 hy hlr hi hi0 hvs hq
      have hi6 : i < 6 := by simp only [List.length_cons] at hi; omega
      have hY : obP R0 = true := by
        cases hb : obP R0 with
        | true => rfl
        | false =>
          have h1 := obLen_np hb (by omega)
          simp only [List.length_cons] at hlr
          omega
      have hl2 : obLen (obCdr R0) = (rs.length : Int) := by
        have h1 := obLen_p hY
        have h2 := obLen_ge (obCdr R0)
        simp only [List.length_cons] at hlr
        split at h1 <;> omega
      have hy1 := hy.1
      have hy2 := hy.2.1
      refine pw_iload C dX3_argumentOf_22 rfl ?_
      refine pw_bipush C dX3_argumentOf_24 (by decide) ?_
      refine pw_icmp_ge (tgt := 64) C (by omega) (by omega) dX3_argumentOf_26 (by decide) (fun h_81 => ?_) (fun h_81 => ?_)
      · exfalso; omega
      · refine pw_aload_n (i := 0) C dX3_argumentOf_29 rfl rfl (Or.inr ⟨_, rfl⟩) ?_
        refine pw_get (j := 0) C cl_X3 fl_X3_21 (by decide) rfl hE rfl dX3_argumentOf_30 ?_
        refine pw_iload_n (i := 3) C dX3_argumentOf_33 rfl rfl ?_
        refine pw_callV (As := [.int (iZ y)]) (st := []) C (vr_head hS hy) my_X6_head ml_X3_85 (hS.rec C) rfl ⟨Nat.le_of_ble_eq_true rfl, Nat.le_of_ble_eq_true rfl⟩ ⟨Nat.le_of_ble_eq_true rfl, Nat.le_of_ble_eq_true rfl⟩ rfl (Nat.le_of_ble_eq_true rfl) dX3_argumentOf_34 ?_
        rintro _ _ ⟨rfl, z_82, rfl, z_82v⟩
        have z_82r := Vl.rng hS z_82v
        refine pw_stk (st' := [.int (iZ z_82)]) rfl ?_
        refine pw_iload_n (i := 2) C dX3_argumentOf_37 rfl rfl ?_
        refine pw_icmp_ne (tgt := 49) C (by omega) (by omega) dX3_argumentOf_38 (by decide) (fun h_83 => ?_) (fun h_83 => ?_)
        · refine pw_aload_n (i := 0) C dX3_argumentOf_49 rfl rfl (Or.inr ⟨_, rfl⟩) ?_
          refine pw_get (j := 0) C cl_X3 fl_X3_21 (by decide) rfl hE rfl dX3_argumentOf_50 ?_
          refine pw_iload_n (i := 3) C dX3_argumentOf_53 rfl rfl ?_
          refine pw_callV (As := [.int (iZ y)]) (st := []) C (vr_tail hS hy) my_X6_tail ml_X3_90 (hS.rec C) rfl ⟨Nat.le_of_ble_eq_true rfl, Nat.le_of_ble_eq_true rfl⟩ ⟨Nat.le_of_ble_eq_true rfl, Nat.le_of_ble_eq_true rfl⟩ rfl (Nat.le_of_ble_eq_true rfl) dX3_argumentOf_54 ?_
          rintro _ _ ⟨rfl, z_84, rfl, z_84v⟩
          have z_84r := Vl.rng hS z_84v
          refine pw_stk (st' := [.int (iZ z_84)]) rfl ?_
          refine pw_istore_n (i := 3) (lv' := [(0, .ref (A 18)), (1, .ref ac), (2, .int (iZ x)), (3, .int (iZ z_84)), (4, .int (iZ i))]) C dX3_argumentOf_57 rfl (by decide) rfl ?_
          refine pw_iinc (lv' := [(0, .ref (A 18)), (1, .ref ac), (2, .int (iZ x)), (3, .int (iZ z_84)), (4, .int (iZ (i + 1)))]) C dX3_argumentOf_58 rfl (by decide) rfl ?_
          refine pw_goto (tgt := 22) C dX3_argumentOf_61 (by decide) ?_
          exact ih (i + 1) _ _ z_84v hl2 (by simp only [List.length_cons] at hi; omega) (by omega) hvs.2 (by rw [← hq, zipE_p hY, eLk, if_neg (fun q => absurd ((Vl.inj hS z_82v hX).mpr q) (by omega))])
        · refine pw_aload_n (i := 1) C dX3_argumentOf_41 rfl rfl (Or.inr ⟨_, rfl⟩) ?_
          refine pw_getN (j := 0) C cl_X0 fn_X3_129 (by decide) rfl hC rfl dX3_argumentOf_42 ?_
          refine pw_iload C dX3_argumentOf_45 rfl ?_
          have g_85 := hf i
          refine pw_iald C hv ⟨by omega, by omega, by omega⟩ dX3_argumentOf_47 ?_
          exact pw_iret C hr dX3_argumentOf_48 ⟨rfl, _, rfl, by rw [← hq, zipE_p hY, eLk, if_pos ((Vl.inj hS z_82v hX).mp (by omega))]; exact hvs.1⟩
  refine pw_aload_n (i := 1) C dX3_argumentOf_0 rfl rfl (Or.inr ⟨_, rfl⟩) ?_
  refine pw_getN (j := 3) C cl_X0 fn_X3_93 (by decide) rfl hC rfl dX3_argumentOf_1 ?_
  refine pw_ifnonnullR (tgt := 11) C dX3_argumentOf_4 (by decide) ?_
  refine pw_aload_n (i := 1) C dX3_argumentOf_11 rfl rfl (Or.inr ⟨_, rfl⟩) ?_
  refine pw_getN (j := 3) C cl_X0 fn_X3_93 (by decide) rfl hC rfl dX3_argumentOf_12 ?_
  refine pw_getN (j := 2) C cl_X2 fn_X3_126 (by decide) rfl hd rfl dX3_argumentOf_15 ?_
  refine pw_istore_n (i := 3) (lv' := [(0, .ref (A 18)), (1, .ref ac), (2, .int (iZ x)), (3, .int (iZ d.2.2.1))]) C dX3_argumentOf_18 rfl (by decide) rfl ?_
  refine pw_iconst C dX3_argumentOf_19 ?_
  refine pw_istore (lv' := [(0, .ref (A 18)), (1, .ref ac), (2, .int (iZ x)), (3, .int (iZ d.2.2.1)), (4, .int (iZ 0))]) C dX3_argumentOf_20 (by decide) rfl ?_
  exact loop vs 0 _ P hP hl (by omega) (by omega) hvs0 rfl

theorem bEnv_p {R0 : Ob} (h : obP R0 = true) : bEnv R0 = (obCar (obCar R0), obCar (obCdr (obCar R0))) :: bEnv (obCdr R0) := by cases R0 <;> simp_all [obP, bEnv, obCar, obCdr]
theorem bEnv_np {R0 : Ob} (h : obP R0 = false) : bEnv R0 = [] := by cases R0 <;> simp_all [obP, bEnv]
theorem spL_p {R0 : Ob} (h : obP R0 = true) : spL R0 = spL (obCdr R0) + 1 := by cases R0 <;> simp_all [obP, spL, obCdr]
set_option maxRecDepth 100000 in
set_option maxHeartbeats 4000000 in
/-- boundValueOf -/
theorem m_X3_boundValueOf (g : pw_P) (l : Launch) {A : Nat → Nat} {op fu sp fa bi mv tm vl : Int} {sc : Option Nat} {w : pw_W} (hE : w 18 = (A 18, some (evE A op fu sp fa bi mv tm sc vl))) {cap : Nat} {t : Int → Ob} {n x : Int} {B X : Ob} (hS : SB g w (A 2) cap t n) (hX : Vl t n x X) (hB : Vl t n bi B) (hl : spL B ≤ 1000) : pw_M g l yX3_boundValueOf cX3_boundValueOf 4 (some .int) { frames := 2, cells := 0, slots := 0, locals := 42 } [.ref (A 18), .int (iZ x)] w (fun r w' => w = w' ∧ ∃ z, r = some (.int (iZ z)) ∧ Vl t n z (eLk (bEnv B) X)) := by
  refine pw_M.of (by decide) (Nat.le_of_ble_eq_true rfl) rfl ?_
  intro p e s m args below meth c C hr hn
  have hn0 := hS.n
  have hx1 := hX.1
  have hx2 := hX.2.1
  have loop : ∀ (k : Nat) (i y : Int) (R0 : Ob), Vl t n y R0 → i + k = 1000 → 0 ≤ i → spL R0 ≤ k → eLk (bEnv R0) X = eLk (bEnv B) X → pw_G g p l e { frames := 2, cells := 0, slots := 0, locals := 42 } s m args below meth c 4 (pw_Q g below (fun r w' => w = w' ∧ ∃ z, r = some (.int (iZ z)) ∧ Vl t n z (eLk (bEnv B) X)) args s { frames := 2, cells := 0, slots := 0, locals := 42 }) 0 0 7 [(0, .ref (A 18)), (1, .int (iZ x)), (2, .int (iZ y)), (3, .int (iZ i))] [] w := by
    intro k
    induction k with
    | zero =>
      intro i y R0 hy hi hi0 hsp hq
      have hy1 := hy.1
      have hy2 := hy.2.1
      have hnp : obP R0 = false := by
        cases hb : obP R0 with
        | false => rfl
        | true => have := spL_p hb; omega
      refine pw_iload_n (i := 3) C dX3_boundValueOf_7 rfl rfl ?_
      refine pw_sipush C dX3_boundValueOf_8 (by decide) ?_
      refine pw_icmp_ge (tgt := 82) C (by omega) (by omega) dX3_boundValueOf_11 (by decide) (fun h_1 => ?_) (fun h_1 => ?_)
      · refine pw_iconst C dX3_boundValueOf_82 ?_
        exact pw_iret C hr dX3_boundValueOf_83 ⟨rfl, 0, rfl, by rw [← hq, bEnv_np (by first | assumption | exact hnp)]; exact Vl.nil hS⟩
      · exfalso; omega
    | succ k ih =>
      intro i y R0 hy hi hi0 hsp hq
      have hy1 := hy.1
      have hy2 := hy.2.1
      refine pw_iload_n (i := 3) C dX3_boundValueOf_7 rfl rfl ?_
      refine pw_sipush C dX3_boundValueOf_8 (by decide) ?_
      refine pw_icmp_ge (tgt := 82) C (by omega) (by omega) dX3_boundValueOf_11 (by decide) (fun h_41 => ?_) (fun h_41 => ?_)
      · exfalso; omega
      · refine pw_aload_n (i := 0) C dX3_boundValueOf_14 rfl rfl (Or.inr ⟨_, rfl⟩) ?_
        refine pw_get (j := 0) C cl_X3 fl_X3_21 (by decide) rfl hE rfl dX3_boundValueOf_15 ?_
        refine pw_iload_n (i := 2) C dX3_boundValueOf_18 rfl rfl ?_
        refine pw_callV (As := [.int (iZ y)]) (st := []) C (vr_isPair hS hy) my_X6_isPair ml_X3_79 (hS.rec C) rfl ⟨Nat.le_of_ble_eq_true rfl, Nat.le_of_ble_eq_true rfl⟩ ⟨Nat.le_of_ble_eq_true rfl, Nat.le_of_ble_eq_true rfl⟩ rfl (Nat.le_of_ble_eq_true rfl) dX3_boundValueOf_19 ?_
        rintro _ _ ⟨rfl, rfl⟩
        refine pw_stk (st' := [.int (iZ (b2i (obP R0)))]) rfl ?_
        refine pw_if_eqB (tgt := 82) C dX3_boundValueOf_22 (by decide) (fun h_42 => ?_) (fun h_42 => ?_)
        · refine pw_iconst C dX3_boundValueOf_82 ?_
          exact pw_iret C hr dX3_boundValueOf_83 ⟨rfl, 0, rfl, by rw [← hq, bEnv_np (by first | assumption | exact hnp)]; exact Vl.nil hS⟩
        · have hpr := h_42
          refine pw_aload_n (i := 0) C dX3_boundValueOf_25 rfl rfl (Or.inr ⟨_, rfl⟩) ?_
          refine pw_get (j := 0) C cl_X3 fl_X3_21 (by decide) rfl hE rfl dX3_boundValueOf_26 ?_
          refine pw_aload_n (i := 0) C dX3_boundValueOf_29 rfl rfl (Or.inr ⟨_, rfl⟩) ?_
          refine pw_get (j := 0) C cl_X3 fl_X3_21 (by decide) rfl hE rfl dX3_boundValueOf_30 ?_
          refine pw_iload_n (i := 2) C dX3_boundValueOf_33 rfl rfl ?_
          refine pw_callV (As := [.int (iZ y)]) (st := [.ref (A 2)]) C (vr_head hS hy) my_X6_head ml_X3_85 (hS.rec C) rfl ⟨Nat.le_of_ble_eq_true rfl, Nat.le_of_ble_eq_true rfl⟩ ⟨Nat.le_of_ble_eq_true rfl, Nat.le_of_ble_eq_true rfl⟩ rfl (Nat.le_of_ble_eq_true rfl) dX3_boundValueOf_34 ?_
          rintro _ _ ⟨rfl, z_43, rfl, z_43v⟩
          have z_43r := Vl.rng hS z_43v
          refine pw_stk (st' := [.int (iZ z_43), .ref (A 2)]) rfl ?_
          refine pw_callV (As := [.int (iZ z_43)]) (st := []) C (vr_head hS z_43v) my_X6_head ml_X3_85 (hS.rec C) rfl ⟨Nat.le_of_ble_eq_true rfl, Nat.le_of_ble_eq_true rfl⟩ ⟨Nat.le_of_ble_eq_true rfl, Nat.le_of_ble_eq_true rfl⟩ rfl (Nat.le_of_ble_eq_true rfl) dX3_boundValueOf_37 ?_
          rintro _ _ ⟨rfl, z_44, rfl, z_44v⟩
          have z_44r := Vl.rng hS z_44v
          refine pw_stk (st' := [.int (iZ z_44)]) rfl ?_
          refine pw_iload_n (i := 1) C dX3_boundValueOf_40 rfl rfl ?_
          refine pw_icmp_ne (tgt := 67) C (by omega) (by omega) dX3_boundValueOf_41 (by decide) (fun h_45 => ?_) (fun h_45 => ?_)
          · refine pw_aload_n (i := 0) C dX3_boundValueOf_67 rfl rfl (Or.inr ⟨_, rfl⟩) ?_
            refine pw_get (j := 0) C cl_X3 fl_X3_21 (by decide) rfl hE rfl dX3_boundValueOf_68 ?_
            refine pw_iload_n (i := 2) C dX3_boundValueOf_71 rfl rfl ?_
            refine pw_callV (As := [.int (iZ y)]) (st := []) C (vr_tail hS hy) my_X6_tail ml_X3_90 (hS.rec C) rfl ⟨Nat.le_of_ble_eq_true rfl, Nat.le_of_ble_eq_true rfl⟩ ⟨Nat.le_of_ble_eq_true rfl, Nat.le_of_ble_eq_true rfl⟩ rfl (Nat.le_of_ble_eq_true rfl) dX3_boundValueOf_72 ?_
            rintro _ _ ⟨rfl, z_46, rfl, z_46v⟩
            have z_46r := Vl.rng hS z_46v
            refine pw_stk (st' := [.int (iZ z_46)]) rfl ?_
            refine pw_istore_n (i := 2) (lv' := [(0, .ref (A 18)), (1, .int (iZ x)), (2, .int (iZ z_46)), (3, .int (iZ i))]) C dX3_boundValueOf_75 rfl (by decide) rfl ?_
            refine pw_iinc (lv' := [(0, .ref (A 18)), (1, .int (iZ x)), (2, .int (iZ z_46)), (3, .int (iZ (i + 1)))]) C dX3_boundValueOf_76 rfl (by decide) rfl ?_
            refine pw_goto (tgt := 7) C dX3_boundValueOf_79 (by decide) ?_
            exact ih (i + 1) _ _ z_46v (by omega) (by omega) (by have := spL_p hpr; omega) (by rw [← hq, bEnv_p hpr, eLk, if_neg (fun q => absurd ((Vl.inj hS z_44v hX).mpr q) (by omega))])
          · refine pw_aload_n (i := 0) C dX3_boundValueOf_44 rfl rfl (Or.inr ⟨_, rfl⟩) ?_
            refine pw_get (j := 0) C cl_X3 fl_X3_21 (by decide) rfl hE rfl dX3_boundValueOf_45 ?_
            refine pw_aload_n (i := 0) C dX3_boundValueOf_48 rfl rfl (Or.inr ⟨_, rfl⟩) ?_
            refine pw_get (j := 0) C cl_X3 fl_X3_21 (by decide) rfl hE rfl dX3_boundValueOf_49 ?_
            refine pw_aload_n (i := 0) C dX3_boundValueOf_52 rfl rfl (Or.inr ⟨_, rfl⟩) ?_
            refine pw_get (j := 0) C cl_X3 fl_X3_21 (by decide) rfl hE rfl dX3_boundValueOf_53 ?_
            refine pw_iload_n (i := 2) C dX3_boundValueOf_56 rfl rfl ?_
            refine pw_callV (As := [.int (iZ y)]) (st := [.ref (A 2), .ref (A 2)]) C (vr_head hS hy) my_X6_head ml_X3_85 (hS.rec C) rfl ⟨Nat.le_of_ble_eq_true rfl, Nat.le_of_ble_eq_true rfl⟩ ⟨Nat.le_of_ble_eq_true rfl, Nat.le_of_ble_eq_true rfl⟩ rfl (Nat.le_of_ble_eq_true rfl) dX3_boundValueOf_57 ?_
            rintro _ _ ⟨rfl, z_47, rfl, z_47v⟩
            have z_47r := Vl.rng hS z_47v
            refine pw_stk (st' := [.int (iZ z_47), .ref (A 2), .ref (A 2)]) rfl ?_
            refine pw_callV (As := [.int (iZ z_47)]) (st := [.ref (A 2)]) C (vr_tail hS z_47v) my_X6_tail ml_X3_90 (hS.rec C) rfl ⟨Nat.le_of_ble_eq_true rfl, Nat.le_of_ble_eq_true rfl⟩ ⟨Nat.le_of_ble_eq_true rfl, Nat.le_of_ble_eq_true rfl⟩ rfl (Nat.le_of_ble_eq_true rfl) dX3_boundValueOf_60 ?_
            rintro _ _ ⟨rfl, z_48, rfl, z_48v⟩
            have z_48r := Vl.rng hS z_48v
            refine pw_stk (st' := [.int (iZ z_48), .ref (A 2)]) rfl ?_
            refine pw_callV (As := [.int (iZ z_48)]) (st := []) C (vr_head hS z_48v) my_X6_head ml_X3_85 (hS.rec C) rfl ⟨Nat.le_of_ble_eq_true rfl, Nat.le_of_ble_eq_true rfl⟩ ⟨Nat.le_of_ble_eq_true rfl, Nat.le_of_ble_eq_true rfl⟩ rfl (Nat.le_of_ble_eq_true rfl) dX3_boundValueOf_63 ?_
            rintro _ _ ⟨rfl, z_49, rfl, z_49v⟩
            have z_49r := Vl.rng hS z_49v
            refine pw_stk (st' := [.int (iZ z_49)]) rfl ?_
            exact pw_iret C hr dX3_boundValueOf_66 ⟨rfl, _, rfl, by rw [← hq, bEnv_p hpr, eLk, if_pos ((Vl.inj hS z_44v hX).mp (by omega))]; exact z_49v⟩
  refine pw_aload_n (i := 0) C dX3_boundValueOf_0 rfl rfl (Or.inr ⟨_, rfl⟩) ?_
  refine pw_get (j := 7) C cl_X3 fl_X3_38 (by decide) rfl hE rfl dX3_boundValueOf_1 ?_
  refine pw_istore_n (i := 2) (lv' := [(0, .ref (A 18)), (1, .int (iZ x)), (2, .int (iZ bi))]) C dX3_boundValueOf_4 rfl (by decide) rfl ?_
  refine pw_iconst C dX3_boundValueOf_5 ?_
  refine pw_istore_n (i := 3) (lv' := [(0, .ref (A 18)), (1, .int (iZ x)), (2, .int (iZ bi)), (3, .int (iZ 0))]) C dX3_boundValueOf_6 rfl (by decide) rfl ?_
  exact loop 1000 0 _ B hB (by omega) (by omega) (by omega) rfl

