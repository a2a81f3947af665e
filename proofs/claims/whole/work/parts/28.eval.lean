/-- the evaluator between its works -/
def EvI (g : pw_P) (w : pw_W) (A : Nat → Nat) (fu : Nat) (sp fa : Int) (nk : Nat) : Prop :=
  ∃ (F : Nat → Option Nat) (K V : Nat → Nat) (op bi mv tm vl : Int) (sc : Option Nat), w 18 = (A 18, some (evE A op (fu : Int) sp fa bi mv tm sc vl)) ∧ w 19 = (A 19, some (AR g 5 300 F)) ∧ (∀ i, i < 300 → F i = if i < nk then some (K i) else none) ∧ nk ≤ 300 ∧ PoolI g w K V nk ∧ inI op ∧ inI bi
theorem EvI.of {g : pw_P} {w : pw_W} {A D : Nat → Nat} {cap : Nat} {t : Int → Ob} {n : Int} {ds : List Df} {T : List Dn} {be : Bds} {fu : Nat} {fa : Int} {md : Nat} {x : Ob} {e : Bds} {S : List Fr} {k nk : Nat} (h : EvS g w A D cap t n ds T be fu fa md x e S k nk) : EvI g w A fu k fa nk := by
  obtain ⟨K, V, mv, tm, sc, vl, ⟨hS, hF, hD, ⟨F, bi, q1, q2, q3, q4⟩, q7, q8, q9, q10, q11⟩, -⟩ := h
  exact ⟨F, K, V, _, bi, mv, tm, vl, sc, q1, q2, q3, q7, q9, ⟨by omega, by omega⟩, q4.1⟩
theorem EvI.same {g : pw_P} {w w' : pw_W} {A : Nat → Nat} {fu : Nat} {sp fa : Int} {nk : Nat} (h : EvI g w A fu sp fa nk) (hf : ∀ k, (k = 18 ∨ k = 19 ∨ (200 ≤ k ∧ k < 900)) → w' k = w k) : EvI g w' A fu sp fa nk := by
  obtain ⟨F, K, V, op, bi, mv, tm, vl, sc, q1, q2, q3, q7, q9, q10⟩ := h
  exact ⟨F, K, V, op, bi, mv, tm, vl, sc, (hf 18 (by omega)).trans q1, (hf 19 (by omega)).trans q2, q3, q7, q9.same (fun i hi => ⟨rfl, rfl, hf _ (by omega), hf _ (by omega)⟩), q10⟩
theorem EvI.rec {g : pw_P} {p : Program} {s : State} {m : MethodId} {args : Array Value} {meth : Method} {c : Code} {cc : ByteArray} {nL : Nat} {own : String} {w : pw_W} {A : Nat → Nat} {fu : Nat} {sp fa : Int} {nk : Nat} (C : pw_C g p s m args meth c cc nL own) (h : EvI g w A fu sp fa nk) : pw_rec g s w (A 18) RX3 := by
  obtain ⟨F, K, V, op, bi, mv, tm, vl, sc, q1, -⟩ := h
  exact pw_rec.of C q1 cl_X3.1
/-- nothing is open -/
theorem EvB.start {g : pw_P} {w w' : pw_W} {A D : Nat → Nat} {cap : Nat} {t : Int → Ob} {n : Int} {ds : List Df} {T : List Dn} {be : Bds} {fu k nk : Nat} {F : Nat → Option Nat} {K V : Nat → Nat} {bi mv tm vl : Int} {sc : Option Nat} (hS : SB g w (A 2) cap t n) (hF : FnI g w A D ds) (hD : DsT t n ds T) (q2 : w 19 = (A 19, some (AR g 5 300 F))) (q3 : ∀ i, i < 300 → F i = if i < nk then some (K i) else none) (q7 : nk ≤ 300) (q9 : PoolI g w K V nk) (hb : BdI t n bi be) (hk : fu ≤ 1000 ∧ k ≤ fu)
    (h18 : w' 18 = (A 18, some (evE A 0 (fu : Int) (k : Int) 0 bi mv tm sc vl))) (hf : ∀ j, j ≠ 18 → w' j = w j) : EvB g w' A D cap t n ds T be fu 0 [] k nk K V mv tm sc vl :=
  ⟨hS.same (fun k h1 h2 => hf k (by omega)), hF.same (fun k h1 => hf k (by omega)), hD, ⟨F, bi, h18, (hf 19 (by decide)).trans q2, q3, hb⟩, q7, Nat.zero_le _, q9.same (fun i hi => ⟨rfl, rfl, hf _ (by omega), hf _ (by omega)⟩), trivial, hk⟩
set_option maxRecDepth 100000 in
set_option maxHeartbeats 4000000 in
/-- clear -/
theorem ev_clear (g : pw_P) (l : Launch) {w : pw_W} {A : Nat → Nat} {fu : Nat} {sp fa : Int} {nk : Nat} (hI : EvI g w A fu sp fa nk) : pw_M g l yX3_clear cX3_clear 1 none { frames := 0, cells := 0, slots := 0, locals := 0 } [.ref (A 18)] w (fun r w' => r = none ∧ EvI g w' A fu 0 0 nk ∧ ∀ k, k ≠ 18 → w' k = w k) := by
  refine pw_M.of (by decide) (Nat.le_of_ble_eq_true rfl) rfl ?_
  intro p e s m args below meth c C hr hn
  obtain ⟨F, K, V, op, bi, mv, tm, vl, sc, q1, q2, q3, q7, q9, q10, q12⟩ := id hI
  refine pw_aload_n (i := 0) C dX3_clear_0 rfl rfl (Or.inr ⟨_, rfl⟩) ?_
  refine pw_iconst C dX3_clear_1 ?_
  refine pw_put (j := 5) C cl_X3 fl_X3_29 (by decide) rfl rfl rfl rfl rfl q1 (Nat.le_of_ble_eq_true rfl) dX3_clear_2 (fun w_3 k_1 o_2 => ?_)
  have k_4 : w_3 18 = ((A 18), some (OB 3 [.ref (A 2), .ref (A 16), .ref (A 19), .int (iZ op), .int (iZ ((fu : Nat) : Int)), .int (iZ 0), .int (iZ fa), .int (iZ bi), .int (iZ mv), .int (iZ tm), va_rf sc, .int (iZ vl)])) := k_1
  refine pw_aload_n (i := 0) C dX3_clear_5 rfl rfl (Or.inr ⟨_, rfl⟩) ?_
  refine pw_iconst C dX3_clear_6 ?_
  refine pw_put (j := 6) C cl_X3 fl_X3_32 (by decide) rfl rfl rfl rfl rfl k_4 (Nat.le_of_ble_eq_true rfl) dX3_clear_7 (fun w_7 k_5 o_6 => ?_)
  have k_8 : w_7 18 = ((A 18), some (OB 3 [.ref (A 2), .ref (A 16), .ref (A 19), .int (iZ op), .int (iZ ((fu : Nat) : Int)), .int (iZ 0), .int (iZ 0), .int (iZ bi), .int (iZ mv), .int (iZ tm), va_rf sc, .int (iZ vl)])) := k_5
  have c_9 := ((o_6 19 (by omega)).trans (o_2 19 (by omega))).trans q2
  exact pw_vret C hr dX3_clear_10 ⟨rfl, ⟨F, K, V, op, bi, mv, tm, vl, sc, k_8, c_9, q3, q7, q9.same (fun i hi => ⟨rfl, rfl, (o_6 (200 + i) (by omega)).trans (o_2 (200 + i) (by omega)), (o_6 (600 + i) (by omega)).trans (o_2 (600 + i) (by omega))⟩), q10, q12⟩, fun k hk => (o_6 k hk).trans (o_2 k hk)⟩

set_option maxRecDepth 100000 in
set_option maxHeartbeats 4000000 in
/-- beginWith -/
theorem m_X3_beginWith (g : pw_P) (l : Launch) {w : pw_W} {A D : Nat → Nat} {cap : Nat} {t : Int → Ob} {n : Int} {ds : List Df} {T : List Dn} {fu k nk : Nat} (hI : EvI g w A fu (k : Int) 0 nk) (hS : SB g w (A 2) cap t n) (hF : FnI g w A D ds) (hD : DsT t n ds T) (hk : fu ≤ 1000 ∧ k ≤ fu) {bz x : Int} {B X : Ob} (hb : Vl t n bz B) (hsp : spL B ≤ 1000) (hx : Vl t n x X) : pw_M g l yX3_beginWith cX3_beginWith 3 none { frames := 1, cells := 0, slots := 0, locals := 22 } [.ref (A 18), .int (iZ bz), .int (iZ x)] w (fun r w' => r = none ∧ EvS g w' A D cap t n ds T (bEnv B) fu 0 0 X (bEnv B) [] k nk ∧ ∀ k, k ≠ 18 → w' k = w k) := by
  refine pw_M.of (by decide) (Nat.le_of_ble_eq_true rfl) rfl ?_
  intro p e s m args below meth c C hr hn
  obtain ⟨F, K, V, op, bi, mv, tm, vl, sc, q1, q2, q3, q7, q9, q10, q12⟩ := id hI
  have hbr := Vl.rng hS hb
  have hxr := Vl.rng hS hx
  refine pw_aload_n (i := 0) C dX3_beginWith_0 rfl rfl (Or.inr ⟨_, rfl⟩) ?_
  refine pw_iconst C dX3_beginWith_1 ?_
  refine pw_put (j := 3) C cl_X3 fl_X3_35 (by decide) rfl rfl rfl rfl rfl q1 (Nat.le_of_ble_eq_true rfl) dX3_beginWith_2 (fun w_3 k_1 o_2 => ?_)
  have k_4 : w_3 18 = ((A 18), some (OB 3 [.ref (A 2), .ref (A 16), .ref (A 19), .int (iZ 0), .int (iZ ((fu : Nat) : Int)), .int (iZ ((k : Nat) : Int)), .int (iZ 0), .int (iZ bi), .int (iZ mv), .int (iZ tm), va_rf sc, .int (iZ vl)])) := k_1
  refine pw_aload_n (i := 0) C dX3_beginWith_5 rfl rfl (Or.inr ⟨_, rfl⟩) ?_
  refine pw_iload_n (i := 1) C dX3_beginWith_6 rfl rfl ?_
  refine pw_put (j := 7) C cl_X3 fl_X3_38 (by decide) rfl rfl rfl rfl rfl k_4 (Nat.le_of_ble_eq_true rfl) dX3_beginWith_7 (fun w_7 k_5 o_6 => ?_)
  have k_8 : w_7 18 = ((A 18), some (OB 3 [.ref (A 2), .ref (A 16), .ref (A 19), .int (iZ 0), .int (iZ ((fu : Nat) : Int)), .int (iZ ((k : Nat) : Int)), .int (iZ 0), .int (iZ bz), .int (iZ mv), .int (iZ tm), va_rf sc, .int (iZ vl)])) := k_5
  refine pw_aload_n (i := 0) C dX3_beginWith_10 rfl rfl (Or.inr ⟨_, rfl⟩) ?_
  refine pw_iload_n (i := 2) C dX3_beginWith_11 rfl rfl ?_
  refine pw_null C dX3_beginWith_12 ?_
  refine pw_stk (st' := [va_rf none, .int (iZ x), .ref (A 18)]) rfl ?_
  refine pw_callV (As := [.int (iZ x), va_rf none]) (st := []) C (m_X3_evaluateNext g l (x := x) (oc := none) k_8) my_X3_evaluateNext ml_X3_41 (pw_rec.of C k_8 cl_X3.1) rfl ⟨Nat.le_of_ble_eq_true rfl, Nat.le_of_ble_eq_true rfl⟩ ⟨Nat.le_of_ble_eq_true rfl, Nat.le_of_ble_eq_true rfl⟩ rfl (Nat.le_of_ble_eq_true rfl) dX3_beginWith_13 ?_
  rintro _ w_9 ⟨rfl, k_10, o_11⟩
  refine pw_stk (st' := []) rfl ?_
  exact pw_vret C hr dX3_beginWith_16 ⟨rfl, ⟨K, V, 0, x, none, vl, EvB.start hS hF hD q2 q3 q7 q9 ⟨⟨by omega, by omega⟩, Or.inr ⟨B, hb, rfl, hsp⟩⟩ hk k_10 (fun j hj => (o_11 j hj).trans ((o_6 j hj).trans (o_2 j hj))), (fun _ => ⟨rfl, hx, Or.inl ⟨rfl, rfl⟩⟩), (fun h => by cases h), (fun h => by cases h)⟩, fun k hk => (o_11 k hk).trans ((o_6 k hk).trans (o_2 k hk))⟩

set_option maxRecDepth 100000 in
set_option maxHeartbeats 4000000 in
/-- beginCall -/
theorem m_X3_beginCall (g : pw_P) (l : Launch) {w : pw_W} {A D : Nat → Nat} {cap : Nat} {t : Int → Ob} {n : Int} {ds : List Df} {T : List Dn} {fu k nk : Nat} (hI : EvI g w A fu (k : Int) 0 nk) (hS : SB g w (A 2) cap t n) (hF : FnI g w A D ds) (hD : DsT t n ds T) (hk : fu ≤ 1000 ∧ k ≤ fu) {v : Int} {N Y : Ob} {j0 : Nat} {d : Df} (nx : Nat) (hj : ds[j0]? = some d) (hdn : Vl t n d.1 N) (hv : Vl t n v Y) (hnx : k < fu → nk = 0 → 1 ≤ nx) : pw_M g l yX3_beginCall cX3_beginCall 3 none { frames := 3, cells := (2 * nx), slots := (13 * nx), locals := 63 } [.ref (A 18), .ref (D j0), .int (iZ v)] w (fun r w' => r = none ∧ frE w w' ∧ (if fu ≤ k then EvS g w' A D cap t n ds T [] fu 1 3 oNil [] [] k nk else EvS g w' A D cap t n ds T [] fu 0 2 oNil [] [(N, oNil, [Y], [], false)] (k + 1) (max nk 1))) := by
  refine pw_M.of (by decide) (Nat.le_of_ble_eq_true rfl) rfl ?_
  intro p e s m args below meth c C hr hn
  obtain ⟨F, K, V, op, bi, mv, tm, vl, sc, q1, q2, q3, q7, q9, q10, q12⟩ := id hI
  have hvr := Vl.rng hS hv
  have hdr := Vl.rng hS hdn
  obtain ⟨hd1, hd2⟩ := hF.get hj
  refine pw_aload_n (i := 0) C dX3_beginCall_0 rfl rfl (Or.inr ⟨_, rfl⟩) ?_
  refine pw_iconst C dX3_beginCall_1 ?_
  refine pw_put (j := 3) C cl_X3 fl_X3_35 (by decide) rfl rfl rfl rfl rfl q1 (Nat.le_of_ble_eq_true rfl) dX3_beginCall_2 (fun w_3 k_1 o_2 => ?_)
  have k_4 : w_3 18 = ((A 18), some (OB 3 [.ref (A 2), .ref (A 16), .ref (A 19), .int (iZ 0), .int (iZ ((fu : Nat) : Int)), .int (iZ ((k : Nat) : Int)), .int (iZ 0), .int (iZ bi), .int (iZ mv), .int (iZ tm), va_rf sc, .int (iZ vl)])) := k_1
  refine pw_aload_n (i := 0) C dX3_beginCall_5 rfl rfl (Or.inr ⟨_, rfl⟩) ?_
  refine pw_null C dX3_beginCall_6 ?_
  refine pw_put (j := 10) C cl_X3 fl_X3_45 (by decide) rfl rfl rfl rfl rfl k_4 (Nat.le_of_ble_eq_true rfl) dX3_beginCall_7 (fun w_7 k_5 o_6 => ?_)
  have k_8 : w_7 18 = ((A 18), some (OB 3 [.ref (A 2), .ref (A 16), .ref (A 19), .int (iZ 0), .int (iZ ((fu : Nat) : Int)), .int (iZ ((k : Nat) : Int)), .int (iZ 0), .int (iZ bi), .int (iZ mv), .int (iZ tm), .null, .int (iZ vl)])) := k_5
  refine pw_aload_n (i := 0) C dX3_beginCall_10 rfl rfl (Or.inr ⟨_, rfl⟩) ?_
  refine pw_aload_n (i := 1) C dX3_beginCall_11 rfl rfl (Or.inr ⟨_, rfl⟩) ?_
  have c_9 := ((o_6 (100 + j0) (by omega)).trans (o_2 (100 + j0) (by omega))).trans hd1
  refine pw_getN (j := 0) C cl_X2 fn_X3_49 (by decide) rfl c_9 rfl dX3_beginCall_12 ?_
  refine pw_iconst C dX3_beginCall_15 ?_
  have hB : EvB g w_7 A D cap t n ds T [] fu 0 [] k nk K V mv tm none vl := EvB.start hS hF hD q2 q3 q7 q9 ⟨q12, Or.inl rfl⟩ hk k_8 (fun j hj => (o_6 j hj).trans (o_2 j hj))
  refine pw_callV (As := [.int (iZ d.1), .int (iZ 0)]) (st := []) C (m_X3_openCall g l nx hB (e0 := []) (Or.inl ⟨rfl, rfl⟩) hdn (Vl.nil hS) (fun _ a b => hnx a b)) my_X3_openCall ml_X3_54 (hB.recE C) rfl ⟨Nat.le_of_ble_eq_true rfl, Nat.le_of_ble_eq_true rfl⟩ ⟨by (try dsimp only); omega, by (try dsimp only); omega⟩ rfl (Nat.le_of_ble_eq_true rfl) dX3_beginCall_16 ?_
  rintro _ w_10 ⟨rfl, hfr, hpost⟩
  have hfr2 : frE w w_10 := fun k hk => (hfr k hk).trans ((o_6 k (by omega)).trans (o_2 k (by omega)))
  rw [if_neg (by simp)] at hpost
  refine pw_stk (st' := []) rfl ?_
  by_cases hfu : fu ≤ k
  · rw [if_pos hfu] at hpost
    obtain ⟨K1, V1, mv1, tm1, sc1, vl1, hB1, hm⟩ := id hpost
    obtain ⟨bi1, F1, r1, r2, r3, r4, r6⟩ := hB1.lens
    refine pw_aload_n (i := 0) C dX3_beginCall_19 rfl rfl (Or.inr ⟨_, rfl⟩) ?_
    refine pw_get (j := 6) C cl_X3 fl_X3_32 (by decide) rfl r1 rfl dX3_beginCall_20 ?_
    refine pw_if_ne (tgt := 45) C (by omega) dX3_beginCall_23 (by decide) (fun h_11 => ?_) (fun h_11 => ?_)
    · refine pw_wide (2 * nx) (13 * nx) (by (try dsimp only); omega) (by (try dsimp only); omega) ?_
      exact pw_vret C hr dX3_beginCall_45 ⟨rfl, hfr2, by rw [if_pos hfu]; exact hpost⟩
    · exfalso; omega
  · rw [if_neg hfu] at hpost
    obtain ⟨K1, V1, mv1, tm1, sc1, vl1, hB1, hm0, hm1, hm2⟩ := hpost
    obtain ⟨bi1, F1, zn, zr, os, f, r1, r2, r3, r4, r5, r6, r7, r8, r9, r10, r11, r12, r13, r14, r15⟩ := hB1.top
    refine pw_aload_n (i := 0) C dX3_beginCall_19 rfl rfl (Or.inr ⟨_, rfl⟩) ?_
    refine pw_get (j := 6) C cl_X3 fl_X3_32 (by decide) rfl r1 rfl dX3_beginCall_20 ?_
    refine pw_if_ne (tgt := 45) C (by omega) dX3_beginCall_23 (by decide) (fun h_12 => ?_) (fun h_12 => ?_)
    · exfalso; omega
    · refine pw_aload_n (i := 0) C dX3_beginCall_26 rfl rfl (Or.inr ⟨_, rfl⟩) ?_
      refine pw_get (j := 2) C cl_X3 fl_X3_13 (by decide) rfl r1 rfl dX3_beginCall_27 ?_
      refine pw_iconst C dX3_beginCall_30 ?_
      refine pw_aald C r2 rfl ⟨by omega, by omega, by omega⟩ dX3_beginCall_31 ?_
      rw [show F1 (0 : Int).toNat = some (K1 ([] : List Fr).length) from r3]
      refine pw_stk (st' := [.ref (K1 ([] : List Fr).length)]) rfl ?_
      refine pw_ifnullR C dX3_beginCall_32 ?_
      refine pw_aload_n (i := 0) C dX3_beginCall_35 rfl rfl (Or.inr ⟨_, rfl⟩) ?_
      refine pw_get (j := 2) C cl_X3 fl_X3_13 (by decide) rfl r1 rfl dX3_beginCall_36 ?_
      refine pw_iconst C dX3_beginCall_39 ?_
      refine pw_aald C r2 rfl ⟨by omega, by omega, by omega⟩ dX3_beginCall_40 ?_
      rw [show F1 (0 : Int).toNat = some (K1 ([] : List Fr).length) from r3]
      refine pw_stk (st' := [.ref (K1 ([] : List Fr).length)]) rfl ?_
      refine pw_iload_n (i := 2) C dX3_beginCall_41 rfl rfl ?_
      refine pw_callV (As := [.int (iZ v)]) (st := []) C (m_X0_add g l (x := v) r5 r6 (by decide) (by decide)) my_X0_add ml_X3_58 (pw_rec.of C r5 cl_X0.1) rfl ⟨Nat.le_of_ble_eq_true rfl, Nat.le_of_ble_eq_true rfl⟩ ⟨by (try dsimp only); omega, by (try dsimp only); omega⟩ rfl (Nat.le_of_ble_eq_true rfl) dX3_beginCall_42 ?_
      rintro _ w_14 ⟨rfl, k_15, k_16, o_17⟩
      refine pw_stk (st' := []) rfl ?_
      refine pw_wide (2 * nx) (13 * nx) (by (try dsimp only); omega) (by (try dsimp only); omega) ?_
      refine pw_vret C hr dX3_beginCall_45 ⟨rfl, fun k hk => (o_17 k (by simp; omega) (by simp; omega)).trans (hfr2 k hk), ?_⟩
      rw [if_neg hfu]
      exact ⟨K1, V1, mv1, tm1, sc1, vl1, r14 _ 0 mv1 tm1 vl1 zr sc1 oNil [Y] false _ ((o_17 18 (by simp) (by simp)).trans r1) k_15 k_16 (fun j j1 j2 j3 => o_17 j j2 j3) (upz_inI r7 (by omega)) r9 (by simp) ⟨by show Vl t n (upz f 0 v 0) Y; rw [upz_self]; exact hv, trivial⟩, (fun h => by cases h), (fun h => by cases h), fun _ => hm2 rfl⟩

