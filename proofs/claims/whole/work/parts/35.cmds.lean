theorem mRun_300 (T : List Dn) (fu : Nat) : ∀ (m md : Nat) (x : Ob) (e : Bds) (S : List Fr) (k nk : Nat), md ≤ 2 → (md = 2 → S ≠ []) → nk ≤ 300 → (mRun T fu m md x e S k nk).2.2.2 ≤ 300 := by
  intro m
  induction m with
  | zero => intro md x e S k nk _ _ h; rw [mRun]; exact h
  | succ m ih =>
    intro md x e S k nk hm hS h3
    rcases md with _ | _ | _ | md
    · rw [mRun_0]
      split
      · exact ih _ _ _ _ _ _ (by decide) (fun h => by cases h) h3
      · split
        · exact ih _ _ _ _ _ _ (by decide) (fun h => by cases h) h3
        · split
          · exact ih _ _ _ _ _ _ (by decide) (fun h => by cases h) h3
          · split
            · exact h3
            · split
              · exact h3
              · exact ih _ _ _ _ _ _ (by decide) (fun _ => by simp) (by omega)
    · rcases S with _ | ⟨⟨nm, r, vs, e1, en⟩, S⟩
      · rw [mRun_1n]; exact h3
      · rw [mRun_1]
        split
        · exact ih _ _ _ _ _ _ (by decide) (fun h => by cases h) h3
        · split
          · exact ih _ _ _ _ _ _ (by decide) (fun h => by cases h) h3
          · exact ih _ _ _ _ _ _ (by decide) (fun _ => by simp) h3
    · rcases S with _ | ⟨⟨nm, r, vs, e1, en⟩, S⟩
      · exact absurd rfl (hS rfl)
      · rw [mRun_2]
        split
        · exact ih _ _ _ _ _ _ (by decide) (fun h => by cases h) h3
        · split
          · exact ih _ _ _ _ _ _ (by decide) (fun h => by cases h) h3
          · split
            · exact ih _ _ _ _ _ _ (by decide) (fun h => by cases h) h3
            · exact h3
    · omega
theorem mRun_9 (T : List Dn) (fu : Nat) : ∀ (m md : Nat) (x : Ob) (e : Bds) (S : List Fr) (k nk : Nat), md ≤ 2 → (md = 2 → S ≠ []) → (mRun T fu m md x e S k nk).1 ≤ 9 := by
  intro m
  induction m with
  | zero => intro md x e S k nk _ _; rw [mRun]; exact (by decide : (9 : Nat) ≤ 9)
  | succ m ih =>
    intro md x e S k nk hm hS
    rcases md with _ | _ | _ | md
    · rw [mRun_0]
      split
      · exact ih _ _ _ _ _ _ (by decide) (fun h => by cases h)
      · split
        · exact ih _ _ _ _ _ _ (by decide) (fun h => by cases h)
        · split
          · exact ih _ _ _ _ _ _ (by decide) (fun h => by cases h)
          · split
            · exact (by decide : (2 : Nat) ≤ 9)
            · split
              · exact (by decide : (1 : Nat) ≤ 9)
              · exact ih _ _ _ _ _ _ (by decide) (fun _ => by simp)
    · rcases S with _ | ⟨⟨nm, r, vs, e1, en⟩, S⟩
      · rw [mRun_1n]; exact (by decide : (0 : Nat) ≤ 9)
      · rw [mRun_1]
        split
        · exact ih _ _ _ _ _ _ (by decide) (fun h => by cases h)
        · split
          · exact ih _ _ _ _ _ _ (by decide) (fun h => by cases h)
          · exact ih _ _ _ _ _ _ (by decide) (fun _ => by simp)
    · rcases S with _ | ⟨⟨nm, r, vs, e1, en⟩, S⟩
      · exact absurd rfl (hS rfl)
      · rw [mRun_2]
        split
        · exact ih _ _ _ _ _ _ (by decide) (fun h => by cases h)
        · split
          · exact ih _ _ _ _ _ _ (by decide) (fun h => by cases h)
          · split
            · exact ih _ _ _ _ _ _ (by decide) (fun h => by cases h)
            · exact (by decide : (3 : Nat) ≤ 9)
    · omega
/-- what a command has done -/
def CmQ (g : pw_P) (w w' : pw_W) (A D : Nat → Nat) (cap : Nat) (t : Int → Ob) (n : Int) (ds : List Df) (fu : Nat) (rs kp mo : Int) (R : Cr) (r : Option Value) : Prop :=
  ∃ (t' : Int → Ob) (n' rs' : Int), r = some (.int (iZ (R.1 : Int))) ∧ SB g w' (A 2) cap t' n' ∧ Ext t n t' n' ∧ n' ≤ n + mo ∧ FnI g w' A D ds ∧ EvI g w' A fu (R.2.2.1 : Int) (R.2.2.2.1 : Int) R.2.2.2.2 ∧ TmJ g w' A ∧ w' 20 = (A 20, some (cmE A rs' kp)) ∧ (match R.2.1 with | some Y => Vl t' n' rs' Y | none => rs' = rs) ∧ ∀ k, (k < 2 ∨ (7 < k ∧ k < 16) ∨ (22 < k ∧ k < 100) ∨ 899 < k) → w' k = w k
theorem EvI.nk {g : pw_P} {w : pw_W} {A : Nat → Nat} {fu : Nat} {sp fa : Int} {nk : Nat} (h : EvI g w A fu sp fa nk) : nk ≤ 300 := by
  obtain ⟨F, K, V, op, bi, mv, tm, vl, sc, q1, q2, q3, q7, q9, q10⟩ := h
  exact q7
set_option maxRecDepth 100000 in
set_option maxHeartbeats 4000000 in
/-- evaluate -/
theorem m_X1_evaluate (g : pw_P) (l : Launch) {w : pw_W} {A : Nat → Nat} {cap : Nat} {t : Int → Ob} {n rs kp : Int} (hS : SB g w (A 2) cap t n) (hC : w 20 = (A 20, some (cmE A rs kp))) {D : Nat → Nat} {ds : List Df} {T : List Dn} (hF : FnI g w A D ds) (hD : DsT t n ds T) (hM : TmJ g w A) {fu nk : Nat} (hI : EvI g w A fu 0 0 nk) (hT : TOk T) (hfu : fu ≤ 1000) {vz bz x : Int} {B X : Ob} {R : Cr} (hvi : inI vz) (hb : Vl t n bz B) (hsp : spL B ≤ 1000) (hx : Vl t n x X) (hcap : n + fu ≤ cap) (hR : (vz = -1 ∧ R = (2, none, 0, 0, nk)) ∨ ∃ Vs, Vl t n vz Vs ∧ R = evC T fu nk Vs B X ∧ ∀ q, obEl q Vs = true → eHas (bEnv B) q = true) : pw_M g l yX1_evaluate cX1_evaluate 5 (some .int) { frames := 5, cells := 600, slots := 3900, locals := 120 } [.ref (A 20), .int (iZ vz), .int (iZ bz), .int (iZ x)] w (fun r w' => CmQ g w w' A D cap t n ds fu rs kp fu R r) := by
  refine pw_M.of (by decide) (Nat.le_of_ble_eq_true rfl) rfl ?_
  intro p e s m args below meth c C hr hn
  have hn0 := hS.n
  have hxr := Vl.rng hS hx
  have hbr := Vl.rng hS hb
  refine pw_iload_n (i := 1) C dX1_evaluate_0 rfl rfl ?_
  refine pw_iconst C dX1_evaluate_1 ?_
  refine pw_icmp_eq (tgt := 19) C (by omega) (by omega) dX1_evaluate_2 (by decide) (fun h_1 => ?_) (fun h_1 => ?_)
  · refine pw_iconst C dX1_evaluate_19 ?_
    refine pw_wide 600 3900 (by (try dsimp only); omega) (by (try dsimp only); omega) ?_
    rcases hR with ⟨e1, rfl⟩ | ⟨Vs, e1, rfl, -⟩
    · exact pw_iret C hr dX1_evaluate_20 ⟨t, n, rs, rfl, hS, Ext.rf, by omega, hF, hI, hM, hC, rfl, fun _ _ => rfl⟩
    · have := e1.1; exfalso; omega
  · obtain ⟨Vs, hvs, hR, hdom⟩ : ∃ Vs, Vl t n vz Vs ∧ R = evC T fu nk Vs B X ∧ ∀ q, obEl q Vs = true → eHas (bEnv B) q = true := hR.resolve_left (fun q => by omega)
    have hvsr := Vl.rng hS hvs
    refine pw_aload_n (i := 0) C dX1_evaluate_5 rfl rfl (Or.inr ⟨_, rfl⟩) ?_
    refine pw_get (j := 3) C cl_X1 fl_X1_28 (by decide) rfl hC rfl dX1_evaluate_6 ?_
    refine pw_iload_n (i := 3) C dX1_evaluate_9 rfl rfl ?_
    refine pw_iload_n (i := 1) C dX1_evaluate_10 rfl rfl ?_
    refine pw_iconst C dX1_evaluate_11 ?_
    refine pw_iconst C dX1_evaluate_12 ?_
    refine pw_callV (As := [.int (iZ x), .int (iZ vz), .int (iZ (-1)), .int (iZ (-1))]) (st := []) C (m_X8_isTerm g l (T1 := T) hS hM hF hD hx hvs (Or.inl ⟨rfl, rfl⟩) ⟨by decide, by decide⟩) my_X8_isTerm ml_X1_89 (hM.rec C) rfl ⟨Nat.le_of_ble_eq_true rfl, Nat.le_of_ble_eq_true rfl⟩ ⟨Nat.le_of_ble_eq_true rfl, Nat.le_of_ble_eq_true rfl⟩ rfl (Nat.le_of_ble_eq_true rfl) dX1_evaluate_13 ?_
    rintro _ w_2 ⟨rfl, M_3, o_4⟩
    have S_5 := hS.same (w' := w_2) (fun k h1 h2 => o_4 k (by omega))
    have F_6 := hF.same (w' := w_2) (fun k h => o_4 k (by omega))
    refine pw_stk (st' := [.int (iZ (b2i (isTm T (fun q => obEl q Vs) X)))]) rfl ?_
    refine pw_if_neB (tgt := 21) C dX1_evaluate_16 (by decide) (fun h_7 => ?_) (fun h_7 => ?_)
    · have hit := h_7
      refine pw_aload_n (i := 0) C dX1_evaluate_21 rfl rfl (Or.inr ⟨_, rfl⟩) ?_
      have c_8 := (o_4 20 (by omega)).trans hC
      refine pw_get (j := 2) C cl_X1 fl_X1_19 (by decide) rfl c_8 rfl dX1_evaluate_22 ?_
      refine pw_iload_n (i := 2) C dX1_evaluate_25 rfl rfl ?_
      refine pw_iload_n (i := 3) C dX1_evaluate_26 rfl rfl ?_
      have hI2 := hI.same (w' := w_2) (fun k hk => (o_4 k (by omega)))
      refine pw_callV (As := [.int (iZ bz), .int (iZ x)]) (st := []) C (m_X3_beginWith g l (T := T) (k := 0) hI2 S_5 F_6 hD ⟨hfu, Nat.zero_le _⟩ hb hsp hx) my_X3_beginWith ml_X1_93 (hI2.rec C) rfl ⟨Nat.le_of_ble_eq_true rfl, Nat.le_of_ble_eq_true rfl⟩ ⟨Nat.le_of_ble_eq_true rfl, Nat.le_of_ble_eq_true rfl⟩ rfl (Nat.le_of_ble_eq_true rfl) dX1_evaluate_27 ?_
      rintro _ w_9 ⟨rfl, hE, o_10⟩
      refine pw_stk (st' := []) rfl ?_
      refine pw_aload_n (i := 0) C dX1_evaluate_30 rfl rfl (Or.inr ⟨_, rfl⟩) ?_
      have c_11 := (o_10 20 (by omega)).trans c_8
      refine pw_get (j := 2) C cl_X1 fl_X1_19 (by decide) rfl c_11 rfl dX1_evaluate_31 ?_
      have hwfT : (wf2 T (fun q => obEl q Vs) X).1 = true := by unfold isTm at hit; rw [Bool.and_eq_true] at hit; exact hit.1
      have hok : MOk T 0 X (bEnv B) [] := Or.inl ⟨rfl, (wf2_mono hdom X).1 hwfT, trivial⟩
      have h9 : (mRun T fu 30000 0 X (bEnv B) [] 0 nk).1 ≠ 9 := mRun_ends hT _ _ _ _ _ _ _ hok (by simp only [frsPh]; omega)
      have h3 := mRun_300 T fu 30000 0 X (bEnv B) [] 0 nk (by decide) (fun h => by cases h) hI.nk
      have hf9 := mRun_9 T fu 30000 0 X (bEnv B) [] 0 nk (by decide) (fun h => by cases h)
      obtain ⟨K1, V1, mv1, tm1, sc1, vl1, hB1, -⟩ := id hE
      refine pw_callV (As := []) (st := []) C (m_X3_finish g l (c0 := n + fu) hE hT hok (by decide) (by simp only [wS]; omega) (by omega) rfl h9) my_X3_finish ml_X1_99 (hB1.recE C) rfl ⟨Nat.le_of_ble_eq_true rfl, Nat.le_of_ble_eq_true rfl⟩ ⟨by (try dsimp only); omega, by (try dsimp only); omega⟩ rfl (Nat.le_of_ble_eq_true rfl) dX1_evaluate_34 ?_
      rintro _ w_12 ⟨zf, t2, n2, S2, rfl, o_13, hx2, hn2, hE2, hv0, hv1⟩
      generalize hRR : mRun T fu 30000 0 X (bEnv B) [] 0 nk = RR at *
      have hI3 := EvI.of hE2
      obtain ⟨K2, V2, mv2, tm2, sc2, vl2, hB2, -⟩ := hE2
      obtain ⟨bi2, F2, p1, p2, p3, p4, p6⟩ := hB2.lens
      obtain ⟨hS2, hF2, -⟩ := id hB2
      refine pw_stk (st' := [.int (iZ zf)]) rfl ?_
      refine pw_istore (lv' := [(0, .ref (A 20)), (1, .int (iZ vz)), (2, .int (iZ bz)), (3, .int (iZ x)), (4, .int (iZ zf))]) C dX1_evaluate_37 (by decide) rfl ?_
      refine pw_aload_n (i := 0) C dX1_evaluate_39 rfl rfl (Or.inr ⟨_, rfl⟩) ?_
      have c_14 := (o_13 20 (by omega)).trans c_11
      refine pw_get (j := 2) C cl_X1 fl_X1_19 (by decide) rfl c_14 rfl dX1_evaluate_40 ?_
      refine pw_getN (j := 6) C cl_X3 fn_X1_102 (by decide) rfl p1 rfl dX1_evaluate_43 ?_
      refine pw_if_eq (tgt := 51) C (by omega) dX1_evaluate_46 (by decide) (fun h_15 => ?_) (fun h_15 => ?_)
      · refine pw_aload_n (i := 0) C dX1_evaluate_51 rfl rfl (Or.inr ⟨_, rfl⟩) ?_
        refine pw_iload C dX1_evaluate_52 rfl ?_
        refine pw_put (j := 4) C cl_X1 fl_X1_57 (by decide) rfl rfl rfl rfl rfl c_14 (Nat.le_of_ble_eq_true rfl) dX1_evaluate_54 (fun w_18 k_16 o_17 => ?_)
        have k_19 : w_18 20 = ((A 20), some (OB 1 [.ref (A 2), .ref (A 16), .ref (A 18), .ref (A 21), .int (iZ zf), .int (iZ kp)])) := k_16
        refine pw_iconst C dX1_evaluate_57 ?_
        refine pw_wide 600 3900 (by (try dsimp only); omega) (by (try dsimp only); omega) ?_
        refine pw_iret C hr dX1_evaluate_58 ?_
        rw [hR]; unfold evC; rw [if_pos hit, hRR, if_pos (by omega)]
        have e0 : RR.1 = 0 := by omega
        rw [e0] at hI3
        exact ⟨t2, n2, zf, rfl, hS2.same (fun k h1 h2 => (o_17 k (by omega))), hx2, by omega, hF2.same (fun k h => (o_17 k (by omega))), hI3.same (fun k h => (o_17 k (by omega))), M_3.same (fun k h => (o_17 k (by omega)).trans ((o_13 k (by omega)).trans (o_10 k (by omega)))), k_19, hv0 e0, fun k hk => (o_17 k (by omega)).trans ((o_13 k (by omega)).trans ((o_10 k (by omega)).trans (o_4 k (by omega))))⟩
      · refine pw_iconst C dX1_evaluate_49 ?_
        refine pw_wide 600 3900 (by (try dsimp only); omega) (by (try dsimp only); omega) ?_
        refine pw_iret C hr dX1_evaluate_50 ?_
        rw [hR]; unfold evC; rw [if_pos hit, hRR, if_neg (by omega)]
        exact ⟨t2, n2, rs, rfl, hS2.same (fun k h1 h2 => rfl), hx2, by omega, hF2.same (fun k h => rfl), hI3.same (fun k h => rfl), M_3.same (fun k h => (o_13 k (by omega)).trans (o_10 k (by omega))), c_14, rfl, fun k hk => (o_13 k (by omega)).trans ((o_10 k (by omega)).trans (o_4 k (by omega)))⟩
    · have hit := h_7
      refine pw_iconst C dX1_evaluate_19 ?_
      refine pw_wide 600 3900 (by (try dsimp only); omega) (by (try dsimp only); omega) ?_
      have c_20 := (o_4 20 (by omega)).trans hC
      refine pw_iret C hr dX1_evaluate_20 ?_
      rw [hR]; unfold evC; rw [if_neg (by rw [hit]; decide)]
      exact ⟨t, n, rs, rfl, S_5, Ext.rf, by omega, F_6, hI.same (fun k hk => (o_4 k (by omega))), M_3, c_20, rfl, fun k hk => (o_4 k (by omega))⟩

