/-- the parts of a term, level by level -/
def chO (Y : Ob) : List Ob := if isCl Y then lsO (obCdr Y) else []
def gth : Nat → Nat → List Ob → List Ob
  | 0, _, L => L
  | k + 1, i, L => match L[i]? with
    | none => L
    | some Y => gth k (i + 1) (L ++ chO Y)
theorem isCl_wf {T : List Dn} {vs : Ob → Bool} {Y : Ob} (h : (wf2 T vs Y).1 = true) (hc : isCl Y = true) : obP Y = true ∧ obQ Y = false ∧ 0 ≤ obLen (obCdr Y) ∧ wfA T vs (lsO (obCdr Y)) = true := by
  unfold isCl at hc
  simp only [Bool.and_eq_true, decide_eq_true_eq] at hc
  have hq : obQ Y = false := by
    cases hb : obQ Y with
    | false => rfl
    | true =>
      unfold obQ at hb
      simp only [Bool.and_eq_true, decide_eq_true_eq] at hb
      exact absurd hb.1 hc.2
  rw [wf_cl hc.1 hq] at h
  simp only [Bool.and_eq_true, decide_eq_true_eq] at h
  exact ⟨hc.1, hq, by omega, h.2⟩
theorem isCl_at {T : List Dn} {vs : Ob → Bool} {Y : Ob} (h : (wf2 T vs Y).1 = true) (hc : isCl Y = false) : (sz2 Y).1 = 1 ∧ (obP Y = true → obQ Y = true) := by
  have hq : obP Y = true → obQ Y = true := by
    intro hp
    cases hb : obQ Y with
    | true => rfl
    | false =>
      unfold isCl at hc
      rw [hp, Bool.true_and] at hc
      have hc := of_decide_eq_false hc
      have hcq : obCar Y = oQuote := by
        by_cases e : obCar Y = oQuote
        · exact e
        · exact absurd e hc
      rw [wf_cl hp hb] at h
      simp only [Bool.and_eq_true, decide_eq_true_eq] at h
      rw [hcq, show arT T oQuote = -1 from by unfold arT; rw [show kIx oQuote = 2 from kIx_k 2 (by decide), if_pos (by decide)]; rfl] at h
      omega
  refine ⟨?_, hq⟩
  cases Y with
  | add a b => simp only [sz2]; rw [if_pos (hq rfl)]
  | _ => rfl
theorem gth_ok {T : List Dn} {vs : Ob → Bool} : ∀ (k i : Nat) (L : List Ob), i + k = 120 → i ≤ L.length → wfA T vs (L.drop i) = true → i + szA (L.drop i) ≤ 120 → (gth k i L).length ≤ 120 ∧ wfA T vs ((gth k i L).drop i) = true ∧ ∃ M, gth k i L = L ++ M ∧ (gth k i L).drop L.length = ((gth k i L).drop i).flatMap chO := by
  intro k
  induction k with
  | zero =>
    intro i L hi hl hw hs
    have h1 := szA_len (L.drop i)
    rw [List.length_drop] at h1
    simp only [gth]
    refine ⟨by omega, hw, [], (List.append_nil L).symm, ?_⟩
    rw [List.drop_eq_nil_of_le (Nat.le_refl _), List.drop_eq_nil_of_le (by omega)]
    rfl
  | succ k ih =>
    intro i L hi hl hw hs
    simp only [gth]
    cases hY : L[i]? with
    | none =>
      have hge := List.getElem?_eq_none_iff.mp hY
      simp only
      refine ⟨by omega, hw, [], (List.append_nil L).symm, ?_⟩
      rw [List.drop_eq_nil_of_le (Nat.le_refl _), List.drop_eq_nil_of_le (by omega)]
      rfl
    | some Y =>
      have hlt := (List.getElem?_eq_some_iff.mp hY).1
      have hdrop : L.drop i = Y :: L.drop (i + 1) := by rw [List.drop_eq_getElem_cons hlt, (List.getElem?_eq_some_iff.mp hY).2]
      rw [hdrop] at hw hs
      rw [wfA_cons, Bool.and_eq_true] at hw
      simp only [szA] at hs
      have hch : wfA T vs (chO Y) = true ∧ szA (chO Y) + 1 = (sz2 Y).1 := by
        unfold chO
        cases hc : isCl Y with
        | true =>
          obtain ⟨c1, c2, c3, c4⟩ := isCl_wf hw.1 hc
          exact ⟨c4, by rw [sz_cl c1 c2]; simp only [if_true]; omega⟩
        | false => exact ⟨rfl, by rw [(isCl_at hw.1 hc).1]; rfl⟩
      have hd2 : (L ++ chO Y).drop (i + 1) = L.drop (i + 1) ++ chO Y := List.drop_append_of_le_length (by omega)
      obtain ⟨g1, g2, M, g3, g4⟩ := ih (i + 1) (L ++ chO Y) (by omega) (by simp only [List.length_append]; omega) (by rw [hd2, wfA_app, hw.2, hch.1]; rfl) (by rw [hd2, szA_app]; omega)
      simp only
      have hlt2 : i < (gth k (i + 1) (L ++ chO Y)).length := by rw [g3]; simp only [List.length_append]; omega
      have hget : (gth k (i + 1) (L ++ chO Y))[i] = Y := by
        have : (gth k (i + 1) (L ++ chO Y))[i]? = some Y := by
          rw [g3, List.getElem?_append_left (by simp only [List.length_append]; omega), List.getElem?_append_left hlt, hY]
        exact (List.getElem?_eq_some_iff.mp this).2
      have hdg : (gth k (i + 1) (L ++ chO Y)).drop i = Y :: (gth k (i + 1) (L ++ chO Y)).drop (i + 1) := by rw [List.drop_eq_getElem_cons hlt2, hget]
      refine ⟨g1, by rw [hdg, wfA_cons, hw.1, g2]; rfl, chO Y ++ M, by rw [g3, List.append_assoc], ?_⟩
      rw [hdg, List.flatMap_cons, ← g4]
      have e : (gth k (i + 1) (L ++ chO Y)).drop L.length = chO Y ++ M := by rw [g3, List.append_assoc, List.drop_left]
      have e2 : (gth k (i + 1) (L ++ chO Y)).drop (L ++ chO Y).length = M := by rw [g3, List.drop_left]
      rw [e, e2]
/-- all parts of a term -/
def allP (X : Ob) : List Ob := gth 120 0 [X]
theorem allP_ok {T : List Dn} {vs : Ob → Bool} {X : Ob} (hw : (wf2 T vs X).1 = true) (hs : (sz2 X).1 ≤ 120) : (allP X).length ≤ 120 ∧ wfA T vs (allP X) = true ∧ ∃ M, allP X = X :: M ∧ M = (allP X).flatMap chO := by
  obtain ⟨h1, h2, M, h3, h4⟩ := gth_ok (T := T) (vs := vs) 120 0 [X] rfl (by simp) (by simp [wfA, hw]) (by simp [szA]; omega)
  refine ⟨h1, h2, M, h3, ?_⟩
  have e : (allP X).drop 1 = M := by show (gth 120 0 [X]).drop 1 = M; rw [h3]; rfl
  rw [← e]
  exact h4
set_option maxRecDepth 100000 in
set_option maxHeartbeats 4000000 in
/-- gather -/
theorem m_X8_gather (g : pw_P) (l : Launch) {w : pw_W} {A : Nat → Nat} {cap : Nat} {t : Int → Ob} {n : Int} (hS : SB g w (A 2) cap t n) (hM : TmJ g w A) {T : List Dn} {vs : Ob → Bool} {x : Int} {X : Ob} (hx : Vl t n x X) (hwf : (wf2 T vs X).1 = true) (hsz0 : (sz2 X).1 ≤ 120) : pw_M g l yX8_gather cX8_gather 3 none { frames := 3, cells := 0, slots := 0, locals := 64 } [.ref (A 21), .int (iZ x)] w (fun r w' => r = none ∧ TmI g w' A t n (allP X) ∧ ∀ k, (k < 21 ∨ 22 < k) → w' k = w k) := by
  refine pw_M.of (by decide) (Nat.le_of_ble_eq_true rfl) rfl ?_
  intro p e s m args below meth c C hr hn
  obtain ⟨f, cx, k1, k2, k3⟩ := id hM
  have hn0 := hS.n
  have loop : ∀ (kk i : Nat) (L : List Ob) (w1 : pw_W), i + kk = 120 → i ≤ L.length → SB g w1 (A 2) cap t n → TmI g w1 A t n L → (∀ k, (k < 21 ∨ 22 < k) → w1 k = w k) → wfA T vs (L.drop i) = true → i + szA (L.drop i) ≤ 120 → gth kk i L = allP X → pw_G g p l e { frames := 3, cells := 0, slots := 0, locals := 64 } s m args below meth c 3 (pw_Q g below (fun r w' => r = none ∧ TmI g w' A t n (allP X) ∧ ∀ k, (k < 21 ∨ 22 < k) → w' k = w k) args s { frames := 3, cells := 0, slots := 0, locals := 64 }) 0 0 7 [(0, .ref (A 21)), (1, .int (iZ x)), (2, .int (iZ ((i : Nat) : Int)))] [] w1 := by
    intro kk
    induction kk with
    | zero =>
      intro i L w1 hi hil hS1 hM1 hf1 hw hs hq
      obtain ⟨f, k1, k2, k3, k4, k5⟩ := id hM1
      have hll := szA_len (L.drop i)
      rw [List.length_drop] at hll
      refine pw_iload_n (i := 2) C dX8_gather_7 rfl rfl ?_
      refine pw_aload_n (i := 0) C dX8_gather_8 rfl rfl (Or.inr ⟨_, rfl⟩) ?_
      refine pw_get (j := 3) C cl_X8 fl_X8_27 (by decide) rfl k1 rfl dX8_gather_9 ?_
      refine pw_icmp_ge (tgt := 51) C (by omega) (by omega) dX8_gather_12 (by decide) (fun h_11 => ?_) (fun h_11 => ?_)
      · exact pw_vret C hr dX8_gather_51 ⟨rfl, by rw [← hq]; exact hM1, hf1⟩
      · exfalso; omega
    | succ kk ih =>
      intro i L w1 hi hil hS1 hM1 hf1 hw hs hq
      obtain ⟨f, k1, k2, k3, k4, k5⟩ := id hM1
      cases hY : L[i]? with
      | none =>
        have hge := List.getElem?_eq_none_iff.mp hY
        refine pw_iload_n (i := 2) C dX8_gather_7 rfl rfl ?_
        refine pw_aload_n (i := 0) C dX8_gather_8 rfl rfl (Or.inr ⟨_, rfl⟩) ?_
        refine pw_get (j := 3) C cl_X8 fl_X8_27 (by decide) rfl k1 rfl dX8_gather_9 ?_
        refine pw_icmp_ge (tgt := 51) C (by omega) (by omega) dX8_gather_12 (by decide) (fun h_21 => ?_) (fun h_21 => ?_)
        · exact pw_vret C hr dX8_gather_51 ⟨rfl, by rw [← hq]; rw [gth, hY]; exact hM1, hf1⟩
        · exfalso; omega
      | some Y =>
        have hlt := (List.getElem?_eq_some_iff.mp hY).1
        have hdrop : L.drop i = Y :: L.drop (i + 1) := by rw [List.drop_eq_getElem_cons hlt, (List.getElem?_eq_some_iff.mp hY).2]
        have hw1 := hw
        rw [hdrop, wfA_cons, Bool.and_eq_true] at hw1
        have hsz := hs
        rw [hdrop, szA] at hsz
        have hpv : Vl t n (f ((i : Nat) : Int)) Y := by have := VlsI.mem i k4 hY; rw [Int.zero_add] at this; exact this
        have hpr0 := Vl.rng hS1 hpv
        refine pw_iload_n (i := 2) C dX8_gather_7 rfl rfl ?_
        refine pw_aload_n (i := 0) C dX8_gather_8 rfl rfl (Or.inr ⟨_, rfl⟩) ?_
        refine pw_get (j := 3) C cl_X8 fl_X8_27 (by decide) rfl k1 rfl dX8_gather_9 ?_
        refine pw_icmp_ge (tgt := 51) C (by omega) (by omega) dX8_gather_12 (by decide) (fun h_31 => ?_) (fun h_31 => ?_)
        · exfalso; omega
        · refine pw_iload_n (i := 2) C dX8_gather_15 rfl rfl ?_
          refine pw_bipush C dX8_gather_16 (by decide) ?_
          refine pw_icmp_ge (tgt := 51) C (by omega) (by omega) dX8_gather_18 (by decide) (fun h_32 => ?_) (fun h_32 => ?_)
          · exfalso; omega
          · refine pw_aload_n (i := 0) C dX8_gather_21 rfl rfl (Or.inr ⟨_, rfl⟩) ?_
            refine pw_aload_n (i := 0) C dX8_gather_22 rfl rfl (Or.inr ⟨_, rfl⟩) ?_
            refine pw_get (j := 2) C cl_X8 fl_X8_9 (by decide) rfl k1 rfl dX8_gather_23 ?_
            refine pw_iload_n (i := 2) C dX8_gather_26 rfl rfl ?_
            refine pw_iald C k2 ⟨by omega, by omega, by omega⟩ dX8_gather_27 ?_
            refine pw_callV (As := [.int (iZ (f ((i : Nat) : Int)))]) (st := []) C (m_X8_isCall g l hS1 hM1.J hpv) my_X8_isCall ml_X8_66 (hM1.rec C) rfl ⟨Nat.le_of_ble_eq_true rfl, Nat.le_of_ble_eq_true rfl⟩ ⟨Nat.le_of_ble_eq_true rfl, Nat.le_of_ble_eq_true rfl⟩ rfl (Nat.le_of_ble_eq_true rfl) dX8_gather_28 ?_
            rintro _ _ ⟨rfl, rfl⟩
            refine pw_stk (st' := [.int (iZ (b2i (isCl Y)))]) rfl ?_
            refine pw_if_eqB (tgt := 45) C dX8_gather_31 (by decide) (fun h_33 => ?_) (fun h_33 => ?_)
            · have hcl := h_33
              refine pw_iinc (lv' := [(0, .ref (A 21)), (1, .int (iZ x)), (2, .int (iZ (((i : Nat) : Int) + 1)))]) C dX8_gather_45 rfl (by decide) rfl ?_
              refine pw_goto (tgt := 7) C dX8_gather_48 (by decide) ?_
              exact ih (i + 1) L w1 (by omega) (by omega) hS1 hM1 hf1 hw1.2 (by have := (isCl_at hw1.1 hcl).1; omega) (by rw [← hq, gth, hY]; simp [chO, hcl])
            · have hcl := h_33
              refine pw_aload_n (i := 0) C dX8_gather_34 rfl rfl (Or.inr ⟨_, rfl⟩) ?_
              refine pw_aload_n (i := 0) C dX8_gather_35 rfl rfl (Or.inr ⟨_, rfl⟩) ?_
              refine pw_get (j := 2) C cl_X8 fl_X8_9 (by decide) rfl k1 rfl dX8_gather_36 ?_
              refine pw_iload_n (i := 2) C dX8_gather_39 rfl rfl ?_
              refine pw_iald C k2 ⟨by omega, by omega, by omega⟩ dX8_gather_40 ?_
              refine pw_callV (As := [.int (iZ (f ((i : Nat) : Int)))]) (st := []) C (m_X8_addTermsOf g l hS1 hM1 hpv (isCl_wf hw1.1 hcl).2.2.1) my_X8_addTermsOf ml_X8_60 (hM1.rec C) rfl ⟨Nat.le_of_ble_eq_true rfl, Nat.le_of_ble_eq_true rfl⟩ ⟨Nat.le_of_ble_eq_true rfl, Nat.le_of_ble_eq_true rfl⟩ rfl (Nat.le_of_ble_eq_true rfl) dX8_gather_41 ?_
              rintro rr w_34 ⟨hfa, hpost⟩
              rw [if_pos (by obtain ⟨c1, c2, c3, c4⟩ := isCl_wf hw1.1 hcl; have h1 := szA_len (lsO (obCdr Y)); have h2 := lsO_len c3; have h3 := szA_len (L.drop (i + 1)); rw [List.length_drop] at h3; rw [sz_cl c1 c2] at hsz; omega)] at hpost
              obtain ⟨rfl, hM2⟩ := hpost
              refine pw_stk (st' := [.int (iZ 1)]) rfl ?_
              refine pw_pop C dX8_gather_44 rfl ?_
              refine pw_iinc (lv' := [(0, .ref (A 21)), (1, .int (iZ x)), (2, .int (iZ (((i : Nat) : Int) + 1)))]) C dX8_gather_45 rfl (by decide) rfl ?_
              refine pw_goto (tgt := 7) C dX8_gather_48 (by decide) ?_
              exact ih (i + 1) (L ++ lsO (obCdr Y)) w_34 (by omega) (by simp only [List.length_append]; omega) (hS1.same (fun k h1 h2 => hfa k (by omega))) hM2 (fun k hk => (hfa k hk).trans (hf1 k hk)) (by rw [List.drop_append_of_le_length (by omega), wfA_app, hw1.2, (isCl_wf hw1.1 hcl).2.2.2]; rfl) (by obtain ⟨c1, c2, c3, c4⟩ := isCl_wf hw1.1 hcl; rw [List.drop_append_of_le_length (by omega), szA_app]; rw [sz_cl c1 c2] at hsz; omega) (by rw [← hq, gth, hY]; simp only [chO, hcl, if_true])
  refine pw_aload_n (i := 0) C dX8_gather_0 rfl rfl (Or.inr ⟨_, rfl⟩) ?_
  refine pw_iload_n (i := 1) C dX8_gather_1 rfl rfl ?_
  refine pw_callV (As := [.int (iZ x)]) (st := []) C (tm_startWith g l hS hM hx) my_X8_startWith ml_X8_23 (hM.rec C) rfl ⟨Nat.le_of_ble_eq_true rfl, Nat.le_of_ble_eq_true rfl⟩ ⟨Nat.le_of_ble_eq_true rfl, Nat.le_of_ble_eq_true rfl⟩ rfl (Nat.le_of_ble_eq_true rfl) dX8_gather_2 ?_
  rintro _ w_301 ⟨rfl, hM1, hf1⟩
  refine pw_stk (st' := []) rfl ?_
  refine pw_iconst C dX8_gather_5 ?_
  refine pw_istore_n (i := 2) (lv' := [(0, .ref (A 21)), (1, .int (iZ x)), (2, .int (iZ 0))]) C dX8_gather_6 rfl (by decide) rfl ?_
  exact loop 120 0 [X] w_301 (by omega) (by simp) (hS.same (fun k h1 h2 => hf1 k (by omega))) hM1 hf1 (by simp [wfA, hwf]) (by simp [szA]; omega) rfl

/-- whether a name is called in a term, in a list of terms -/
def cl2 (N : Ob) : Ob → Bool × Bool
  | .add a b => (!obQ (.add a b) && (decide (a = N) || (cl2 N b).2), (cl2 N a).1 || (cl2 N b).2)
  | _ => (false, false)
def clP (N Y : Ob) : Bool := isCl Y && decide (obCar Y = N)
theorem cl2_ls (N x : Ob) : (cl2 N x).2 = (lsO x).any (fun y => (cl2 N y).1) := by
  induction x with
  | add a b ha hb => simp only [cl2, lsO, List.any_cons, hb]
  | _ => rfl
theorem cl2_one {T : List Dn} {vs : Ob → Bool} {N Y : Ob} (h : (wf2 T vs Y).1 = true) : (cl2 N Y).1 = (clP N Y || (chO Y).any (fun y => (cl2 N y).1)) := by
  unfold clP chO
  cases hc : isCl Y with
  | true =>
    obtain ⟨c1, c2, -⟩ := isCl_wf h hc
    cases Y with
    | add a b => simp only [cl2, c2, Bool.not_false, Bool.true_and, if_true, obCar, obCdr, cl2_ls] <;> rfl
    | _ => cases c1
  | false =>
    have c2 := (isCl_at h hc).2
    cases Y with
    | add a b => simp [cl2, c2 rfl]
    | _ => simp [cl2]
theorem gth_cl {T : List Dn} {vs : Ob → Bool} (N : Ob) : ∀ (k i : Nat) (L : List Ob), i + k = 120 → i ≤ L.length → wfA T vs (L.drop i) = true → i + szA (L.drop i) ≤ 120 → (gth k i L).any (clP N) = ((L.take i).any (clP N) || (L.drop i).any (fun y => (cl2 N y).1)) := by
  intro k
  induction k with
  | zero =>
    intro i L hi hl hw hs
    have h1 := szA_len (L.drop i)
    rw [List.length_drop] at h1
    simp only [gth]
    rw [List.drop_eq_nil_of_le (by omega), List.take_of_length_le (by omega)]
    simp
  | succ k ih =>
    intro i L hi hl hw hs
    simp only [gth]
    cases hY : L[i]? with
    | none =>
      have hge := List.getElem?_eq_none_iff.mp hY
      simp only
      rw [List.drop_eq_nil_of_le (by omega), List.take_of_length_le (by omega)]
      simp
    | some Y =>
      have hlt := (List.getElem?_eq_some_iff.mp hY).1
      have hdrop : L.drop i = Y :: L.drop (i + 1) := by rw [List.drop_eq_getElem_cons hlt, (List.getElem?_eq_some_iff.mp hY).2]
      rw [hdrop] at hw hs
      rw [wfA_cons, Bool.and_eq_true] at hw
      simp only [szA] at hs
      have hch : wfA T vs (chO Y) = true ∧ szA (chO Y) + 1 = (sz2 Y).1 := by
        unfold chO
        cases hc : isCl Y with
        | true =>
          obtain ⟨c1, c2, c3, c4⟩ := isCl_wf hw.1 hc
          exact ⟨c4, by rw [sz_cl c1 c2]; simp only [if_true]; omega⟩
        | false => exact ⟨rfl, by rw [(isCl_at hw.1 hc).1]; rfl⟩
      have hd2 : (L ++ chO Y).drop (i + 1) = L.drop (i + 1) ++ chO Y := List.drop_append_of_le_length (by omega)
      have ht2 : (L ++ chO Y).take (i + 1) = L.take i ++ [Y] := by
        rw [List.take_append_of_le_length (by omega), List.take_succ_eq_append_getElem hlt, (List.getElem?_eq_some_iff.mp hY).2]
      simp only
      rw [ih (i + 1) (L ++ chO Y) (by omega) (by simp only [List.length_append]; omega) (by rw [hd2, wfA_app, hw.2, hch.1]; rfl) (by rw [hd2, szA_app]; omega), hd2, ht2, hdrop]
      simp only [List.any_append, List.any_cons, List.any_nil, Bool.or_false, cl2_one hw.1]
      cases (L.take i).any (clP N) <;> cases clP N Y <;> cases (L.drop (i + 1)).any (fun y => (cl2 N y).1) <;> cases (chO Y).any (fun y => (cl2 N y).1) <;> rfl
theorem allP_cl {T : List Dn} {vs : Ob → Bool} {X : Ob} (N : Ob) (hw : (wf2 T vs X).1 = true) (hs : (sz2 X).1 ≤ 120) : (allP X).any (clP N) = (cl2 N X).1 := by
  unfold allP
  rw [gth_cl (T := T) (vs := vs) N 120 0 [X] rfl (by simp) (by simp [wfA, hw]) (by simp [szA]; omega)]
  simp
set_option maxRecDepth 100000 in
set_option maxHeartbeats 4000000 in
/-- isCalled -/
theorem m_X8_isCalled (g : pw_P) (l : Launch) {w : pw_W} {A : Nat → Nat} {cap : Nat} {t : Int → Ob} {n : Int} (hS : SB g w (A 2) cap t n) (hM : TmJ g w A) {T : List Dn} {vs : Ob → Bool} {nz x : Int} {N X : Ob} (hnz : Vl t n nz N) (hx : Vl t n x X) (hwf : (wf2 T vs X).1 = true) (hsz0 : (sz2 X).1 ≤ 120) : pw_M g l yX8_isCalled cX8_isCalled 4 (some .boolean) { frames := 4, cells := 0, slots := 0, locals := 86 } [.ref (A 21), .int (iZ nz), .int (iZ x)] w (fun r w' => r = some (.int (iZ (b2i (cl2 N X).1))) ∧ TmJ g w' A ∧ ∀ k, (k < 21 ∨ 22 < k) → w' k = w k) := by
  refine pw_M.of (by decide) (Nat.le_of_ble_eq_true rfl) rfl ?_
  intro p e s m args below meth c C hr hn
  have hn0 := hS.n
  have hnr := Vl.rng hS hnz
  refine pw_aload_n (i := 0) C dX8_isCalled_0 rfl rfl (Or.inr ⟨_, rfl⟩) ?_
  refine pw_iload_n (i := 2) C dX8_isCalled_1 rfl rfl ?_
  refine pw_callV (As := [.int (iZ x)]) (st := []) C (m_X8_gather g l hS hM hx hwf hsz0) my_X8_gather ml_X8_63 (hM.rec C) rfl ⟨Nat.le_of_ble_eq_true rfl, Nat.le_of_ble_eq_true rfl⟩ ⟨Nat.le_of_ble_eq_true rfl, Nat.le_of_ble_eq_true rfl⟩ rfl (Nat.le_of_ble_eq_true rfl) dX8_isCalled_2 ?_
  rintro _ w1 ⟨rfl, hM1, hf1⟩
  obtain ⟨f, k1, k2, k3, k4, k5⟩ := id hM1
  have hS1 : SB g w1 (A 2) cap t n := hS.same (fun k h1 h2 => hf1 k (by omega))
  refine pw_stk (st' := []) rfl ?_
  refine pw_iconst C dX8_isCalled_5 ?_
  refine pw_istore_n (i := 3) (lv' := [(0, .ref (A 21)), (1, .int (iZ nz)), (2, .int (iZ x)), (3, .int (iZ 0))]) C dX8_isCalled_6 rfl (by decide) rfl ?_
  have loop : ∀ (kk i : Nat), i + kk = (allP X).length → ((allP X).drop i).any (clP N) = (cl2 N X).1 → pw_G g p l e { frames := 4, cells := 0, slots := 0, locals := 86 } s m args below meth c 4 (pw_Q g below (fun r w' => r = some (.int (iZ (b2i (cl2 N X).1))) ∧ TmJ g w' A ∧ ∀ k, (k < 21 ∨ 22 < k) → w' k = w k) args s { frames := 4, cells := 0, slots := 0, locals := 86 }) 0 0 7 [(0, .ref (A 21)), (1, .int (iZ nz)), (2, .int (iZ x)), (3, .int (iZ ((i : Nat) : Int)))] [] w1 := by
    intro kk
    induction kk with
    | zero =>
      intro i hi hq
      refine pw_wide 0 0 (Nat.le_of_ble_eq_true rfl) (Nat.le_of_ble_eq_true rfl) ?_
      refine pw_iload_n (i := 3) C dX8_isCalled_7 rfl rfl ?_
      refine pw_aload_n (i := 0) C dX8_isCalled_8 rfl rfl (Or.inr ⟨_, rfl⟩) ?_
      refine pw_get (j := 3) C cl_X8 fl_X8_27 (by decide) rfl k1 rfl dX8_isCalled_9 ?_
      refine pw_icmp_ge (tgt := 59) C (by omega) (by omega) dX8_isCalled_12 (by decide) (fun h_11 => ?_) (fun h_11 => ?_)
      · refine pw_iconst C dX8_isCalled_59 ?_
        exact pw_zret C hr (by decide +kernel) dX8_isCalled_60 ⟨by rw [show (cl2 N X).1 = false from by rw [← hq]; rw [List.drop_eq_nil_of_le (by omega)]; rfl]; rfl, hM1.J, hf1⟩
      · exfalso; omega
    | succ kk ih =>
      intro i hi hq
      have hlt : i < (allP X).length := by omega
      obtain ⟨Y, hY⟩ : ∃ Y, (allP X)[i]? = some Y := ⟨_, List.getElem?_eq_getElem hlt⟩
      have hdrop : (allP X).drop i = Y :: (allP X).drop (i + 1) := by rw [List.drop_eq_getElem_cons hlt, (List.getElem?_eq_some_iff.mp hY).2]
      have hpv : Vl t n (f ((i : Nat) : Int)) Y := by have := VlsI.mem i k4 hY; rw [Int.zero_add] at this; exact this
      have hpr0 := Vl.rng hS1 hpv
      refine pw_wide 0 0 (Nat.le_of_ble_eq_true rfl) (Nat.le_of_ble_eq_true rfl) ?_
      refine pw_iload_n (i := 3) C dX8_isCalled_7 rfl rfl ?_
      refine pw_aload_n (i := 0) C dX8_isCalled_8 rfl rfl (Or.inr ⟨_, rfl⟩) ?_
      refine pw_get (j := 3) C cl_X8 fl_X8_27 (by decide) rfl k1 rfl dX8_isCalled_9 ?_
      refine pw_icmp_ge (tgt := 59) C (by omega) (by omega) dX8_isCalled_12 (by decide) (fun h_31 => ?_) (fun h_31 => ?_)
      · exfalso; omega
      · refine pw_iload_n (i := 3) C dX8_isCalled_15 rfl rfl ?_
        refine pw_bipush C dX8_isCalled_16 (by decide) ?_
        refine pw_icmp_ge (tgt := 59) C (by omega) (by omega) dX8_isCalled_18 (by decide) (fun h_32 => ?_) (fun h_32 => ?_)
        · exfalso; omega
        · refine pw_aload_n (i := 0) C dX8_isCalled_21 rfl rfl (Or.inr ⟨_, rfl⟩) ?_
          refine pw_aload_n (i := 0) C dX8_isCalled_22 rfl rfl (Or.inr ⟨_, rfl⟩) ?_
          refine pw_get (j := 2) C cl_X8 fl_X8_9 (by decide) rfl k1 rfl dX8_isCalled_23 ?_
          refine pw_iload_n (i := 3) C dX8_isCalled_26 rfl rfl ?_
          refine pw_iald C k2 ⟨by omega, by omega, by omega⟩ dX8_isCalled_27 ?_
          refine pw_callV (As := [.int (iZ (f ((i : Nat) : Int)))]) (st := []) C (m_X8_isCall g l hS1 hM1.J hpv) my_X8_isCall ml_X8_66 (hM1.rec C) rfl ⟨Nat.le_of_ble_eq_true rfl, Nat.le_of_ble_eq_true rfl⟩ ⟨Nat.le_of_ble_eq_true rfl, Nat.le_of_ble_eq_true rfl⟩ rfl (Nat.le_of_ble_eq_true rfl) dX8_isCalled_28 ?_
          rintro _ _ ⟨rfl, rfl⟩
          refine pw_stk (st' := [.int (iZ (b2i (isCl Y)))]) rfl ?_
          refine pw_if_eqB (tgt := 53) C dX8_isCalled_31 (by decide) (fun h_33 => ?_) (fun h_33 => ?_)
          · refine pw_iinc (lv' := [(0, .ref (A 21)), (1, .int (iZ nz)), (2, .int (iZ x)), (3, .int (iZ (((i : Nat) : Int) + 1)))]) C dX8_isCalled_53 rfl (by decide) rfl ?_
            refine pw_goto (tgt := 7) C dX8_isCalled_56 (by decide) ?_
            exact ih (i + 1) (by omega) (by rw [← hq, hdrop, List.any_cons, show clP N Y = false from by unfold clP; rw [h_33]; rfl, Bool.false_or])
          · refine pw_aload_n (i := 0) C dX8_isCalled_34 rfl rfl (Or.inr ⟨_, rfl⟩) ?_
            refine pw_get (j := 0) C cl_X8 fl_X8_15 (by decide) rfl k1 rfl dX8_isCalled_35 ?_
            refine pw_aload_n (i := 0) C dX8_isCalled_38 rfl rfl (Or.inr ⟨_, rfl⟩) ?_
            refine pw_get (j := 2) C cl_X8 fl_X8_9 (by decide) rfl k1 rfl dX8_isCalled_39 ?_
            refine pw_iload_n (i := 3) C dX8_isCalled_42 rfl rfl ?_
            refine pw_iald C k2 ⟨by omega, by omega, by omega⟩ dX8_isCalled_43 ?_
            refine pw_callV (As := [.int (iZ (f ((i : Nat) : Int)))]) (st := []) C (vr_head hS1 hpv) my_X6_head ml_X8_47 (hS1.rec C) rfl ⟨Nat.le_of_ble_eq_true rfl, Nat.le_of_ble_eq_true rfl⟩ ⟨Nat.le_of_ble_eq_true rfl, Nat.le_of_ble_eq_true rfl⟩ rfl (Nat.le_of_ble_eq_true rfl) dX8_isCalled_44 ?_
            rintro _ _ ⟨rfl, z_34, rfl, z_34v⟩
            have z_34r := Vl.rng hS1 z_34v
            refine pw_stk (st' := [.int (iZ z_34)]) rfl ?_
            refine pw_iload_n (i := 1) C dX8_isCalled_47 rfl rfl ?_
            refine pw_icmp_ne (tgt := 53) C (by omega) (by omega) dX8_isCalled_48 (by decide) (fun h_35 => ?_) (fun h_35 => ?_)
            · refine pw_iinc (lv' := [(0, .ref (A 21)), (1, .int (iZ nz)), (2, .int (iZ x)), (3, .int (iZ (((i : Nat) : Int) + 1)))]) C dX8_isCalled_53 rfl (by decide) rfl ?_
              refine pw_goto (tgt := 7) C dX8_isCalled_56 (by decide) ?_
              exact ih (i + 1) (by omega) (by rw [← hq, hdrop, List.any_cons, show clP N Y = false from by unfold clP; rw [decide_eq_false (fun q => absurd ((Vl.inj hS1 z_34v hnz).mpr q) (by omega)), Bool.and_false], Bool.false_or])
            · refine pw_iconst C dX8_isCalled_51 ?_
              exact pw_zret C hr (by decide +kernel) dX8_isCalled_52 ⟨by rw [show (cl2 N X).1 = true from by rw [← hq]; rw [hdrop, List.any_cons, show clP N Y = true from by unfold clP; rw [h_33, decide_eq_true ((Vl.inj hS1 z_34v hnz).mp (by omega))]; rfl, Bool.true_or]]; rfl, hM1.J, hf1⟩
  refine pw_wide 0 0 (Nat.le_of_ble_eq_true rfl) (Nat.le_of_ble_eq_true rfl) ?_
  exact loop (allP X).length 0 (by omega) (allP_cl N hwf hsz0)

