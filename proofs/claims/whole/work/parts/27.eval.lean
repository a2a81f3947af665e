theorem wf_v {T : List Dn} {vs : Ob → Bool} {x : Ob} (hv : obV x = true) (h : (wf2 T vs x).1 = true) : vs x = true := by
  cases x with
  | add a b => simp [obV, obS] at hv
  | _ => simp only [wf2] at h; rw [if_pos hv] at h; exact h
def MOk (T : List Dn) (md : Nat) (x : Ob) (e : Bds) (S : List Fr) : Prop := (md = 0 ∧ (wf2 T (eHas e) x).1 = true ∧ FrsOk T S) ∨ (md = 1 ∧ FrsOk T S) ∨ (md = 2 ∧ ∃ f S', S = f :: S' ∧ f.2.2.2.2 = false ∧ FrOk T 0 f ∧ FrsOk T S')
theorem nk_push {T : List Dn} {fu m k nk : Nat} {x : Ob} {e : Bds} {S : List Fr} {R : Nat × Ob × Nat × Nat} (hR : mRun T fu (m + 1) 0 x e S k nk = R) : max nk (S.length + 1) ≤ R.2.2.2 ∨ ¬ (obV x = false ∧ obP x = true ∧ ¬ obCar x = oQuote ∧ S.length < 300 ∧ k < fu) := by
  by_cases h : obV x = false ∧ obP x = true ∧ ¬ obCar x = oQuote ∧ S.length < 300 ∧ k < fu
  · left
    rw [mRun_0, if_neg (by rw [h.1]; decide), if_neg (by rw [h.2.1]; decide), if_neg h.2.2.1, if_neg (by omega), if_neg (by omega)] at hR
    rw [← hR]
    exact mRun_nk _ _ _ _ _ _ _ _ _ (by decide) (fun _ => by simp)
  · exact Or.inr h
set_option maxRecDepth 100000 in
set_option maxHeartbeats 4000000 in
/-- finish -/
theorem m_X3_finish (g : pw_P) (l : Launch) {w : pw_W} {A D : Nat → Nat} {cap : Nat} {t : Int → Ob} {n : Int} {ds : List Df} {T : List Dn} {be : Bds} {fu : Nat} {S : List Fr} {k nk : Nat} {md mm : Nat} {x : Ob} {e1 : Bds} {RR : Nat × Ob × Nat × Nat} (hE : EvS g w A D cap t n ds T be fu 0 md x e1 S k nk) (hT : TOk T) (hok : MOk T md x e1 S) (hmm : mm ≤ 1000000) {c0 : Int} (hc0 : n + (wS T S : Int) + ((fu - k : Nat) : Int) ≤ c0) (hcap : c0 ≤ cap) (hR : mRun T fu mm md x e1 S k nk = RR) (h9 : RR.1 ≠ 9) : pw_M g l yX3_finish cX3_finish 3 (some .int) { frames := 4, cells := (2 * (RR.2.2.2 - nk)), slots := (13 * (RR.2.2.2 - nk)), locals := 98 } [.ref (A 18)] w (fun r w' => ∃ (z : Int) (t' : Int → Ob) (n' : Int) (S' : List Fr), r = some (.int (iZ z)) ∧ frE w w' ∧ Ext t n t' n' ∧ n' + ((fu - RR.2.2.1 : Nat) : Int) ≤ c0 ∧ EvS g w' A D cap t' n' ds T be fu (RR.1 : Int) 3 oNil [] S' RR.2.2.1 RR.2.2.2 ∧ (RR.1 = 0 → Vl t' n' z RR.2.1) ∧ (RR.1 ≠ 0 → z = -1)) := by
  refine pw_M.of (by decide) (Nat.le_of_ble_eq_true rfl) rfl ?_
  intro p e s m args below meth c C hr hn
  have endl : ∀ (fa : Nat) (i : Int) (w1 : pw_W) (t1 : Int → Ob) (n1 : Int) (S : List Fr) (k1 nk1 : Nat), (0 < fa ∧ fa < 4) → i ≤ 1000000 → 0 ≤ i → EvS g w1 A D cap t1 n1 ds T be fu (fa : Int) 3 oNil [] S k1 nk1 → Ext t n t1 n1 → n1 + ((fu - k1 : Nat) : Int) ≤ c0 → frE w w1 → fa = RR.1 → k1 = RR.2.2.1 → nk1 = RR.2.2.2 → pw_G g p l e { frames := 4, cells := (2 * (RR.2.2.2 - nk)), slots := (13 * (RR.2.2.2 - nk)), locals := 98 } s m args below meth c 3 (pw_Q g below (fun r w' => ∃ (z : Int) (t' : Int → Ob) (n' : Int) (S' : List Fr), r = some (.int (iZ z)) ∧ frE w w' ∧ Ext t n t' n' ∧ n' + ((fu - RR.2.2.1 : Nat) : Int) ≤ c0 ∧ EvS g w' A D cap t' n' ds T be fu (RR.1 : Int) 3 oNil [] S' RR.2.2.1 RR.2.2.2 ∧ (RR.1 = 0 → Vl t' n' z RR.2.1) ∧ (RR.1 ≠ 0 → z = -1)) args s { frames := 4, cells := (2 * (RR.2.2.2 - nk)), slots := (13 * (RR.2.2.2 - nk)), locals := 98 }) (2 * (nk1 - nk)) (13 * (nk1 - nk)) 2 [(0, .ref (A 18)), (1, .int (iZ i))] [] w1 := by
    intro fa i w1 t1 n1 S k1 nk1 hfa hi hi0 hE hext hcp hf1 ha hb hc
    obtain ⟨K, V, mv, tm, sc, vl, hB, -⟩ := hE
    obtain ⟨bi, F, q1, q2, q3, q4, q6⟩ := hB.lens
    refine pw_iload_n (i := 1) C dX3_finish_2 rfl rfl ?_
    refine pw_ldc (z := 1000000) C ki_X3_62 (by decide) dX3_finish_3 ?_
    refine pw_icmp_ge (tgt := 176) C (by omega) (by omega) dX3_finish_5 (by decide) (fun h_501 => ?_) (fun h_501 => ?_)
    · refine pw_iconst C dX3_finish_176 ?_
      refine pw_wide (2 * (RR.2.2.2 - nk)) (13 * (RR.2.2.2 - nk)) (by omega) (by omega) ?_
      exact pw_iret C hr dX3_finish_177 ⟨-1, t1, n1, S, rfl, hf1, hext, by omega, ⟨K, V, mv, tm, sc, vl, by rw [← ha, ← hb, ← hc]; exact hB, (fun h => by cases h), (fun h => by cases h), (fun h => by cases h)⟩, (fun h => absurd h (by omega)), fun _ => rfl⟩
    · refine pw_aload_n (i := 0) C dX3_finish_8 rfl rfl (Or.inr ⟨_, rfl⟩) ?_
      refine pw_get (j := 6) C cl_X3 fl_X3_32 (by decide) rfl q1 rfl dX3_finish_9 ?_
      refine pw_if_ne (tgt := 176) C (by omega) dX3_finish_12 (by decide) (fun h_502 => ?_) (fun h_502 => ?_)
      · refine pw_iconst C dX3_finish_176 ?_
        refine pw_wide (2 * (RR.2.2.2 - nk)) (13 * (RR.2.2.2 - nk)) (by omega) (by omega) ?_
        exact pw_iret C hr dX3_finish_177 ⟨-1, t1, n1, S, rfl, hf1, hext, by omega, ⟨K, V, mv, tm, sc, vl, by rw [← ha, ← hb, ← hc]; exact hB, (fun h => by cases h), (fun h => by cases h), (fun h => by cases h)⟩, (fun h => absurd h (by omega)), fun _ => rfl⟩
      · exfalso; omega
  have loop : ∀ (mm : Nat) (i : Int) (w1 : pw_W) (t1 : Int → Ob) (n1 : Int) (md : Nat) (x : Ob) (e1 : Bds) (S : List Fr) (k1 nk1 : Nat), i + (mm : Int) ≤ 1000000 → 0 ≤ i → EvS g w1 A D cap t1 n1 ds T be fu 0 md x e1 S k1 nk1 → MOk T md x e1 S → Ext t n t1 n1 → n1 + (wS T S : Int) + ((fu - k1 : Nat) : Int) ≤ c0 → nk ≤ nk1 → frE w w1 → mRun T fu mm md x e1 S k1 nk1 = RR → RR.1 ≠ 9 → pw_G g p l e { frames := 4, cells := (2 * (RR.2.2.2 - nk)), slots := (13 * (RR.2.2.2 - nk)), locals := 98 } s m args below meth c 3 (pw_Q g below (fun r w' => ∃ (z : Int) (t' : Int → Ob) (n' : Int) (S' : List Fr), r = some (.int (iZ z)) ∧ frE w w' ∧ Ext t n t' n' ∧ n' + ((fu - RR.2.2.1 : Nat) : Int) ≤ c0 ∧ EvS g w' A D cap t' n' ds T be fu (RR.1 : Int) 3 oNil [] S' RR.2.2.1 RR.2.2.2 ∧ (RR.1 = 0 → Vl t' n' z RR.2.1) ∧ (RR.1 ≠ 0 → z = -1)) args s { frames := 4, cells := (2 * (RR.2.2.2 - nk)), slots := (13 * (RR.2.2.2 - nk)), locals := 98 }) (2 * (nk1 - nk)) (13 * (nk1 - nk)) 2 [(0, .ref (A 18)), (1, .int (iZ i))] [] w1 := by
    intro mm
    induction mm with
    | zero =>
      intro i w1 t1 n1 md x e1 S k1 nk1 hi hi0 hE hok hext hcp hnk hf1 hR h9
      rw [mRun] at hR
      rw [← hR] at h9
      exact absurd rfl h9
    | succ mm ih =>
      intro i w1 t1 n1 md x e1 S k1 nk1 hi hi0 hE hok hext hcp hnk hf1 hR h9
      obtain ⟨K, V, mv, tm, sc, vl, hB, hE0, hE1, hE2⟩ := hE
      obtain ⟨hS, hF, hD, -, p7, p8, p9, p10, p11⟩ := id hB
      have hn0 := hS.n
      have hnkR : nk1 ≤ RR.2.2.2 := by
        rw [← hR]
        refine mRun_nk T fu _ _ _ _ _ _ _ ?_ ?_
        · rcases hok with ⟨rfl, -⟩ | ⟨rfl, -⟩ | ⟨rfl, -⟩ <;> omega
        · rcases hok with ⟨rfl, -⟩ | ⟨rfl, -⟩ | ⟨rfl, f, S', rfl, -⟩
          · intro h; cases h
          · intro h; cases h
          · intro _; simp
      have hnkL := hnkR
      clear hnkR
      rcases hok with ⟨rfl, hok1, hok2⟩ | ⟨rfl, hok2⟩ | ⟨rfl, f0, S, rfl, hok0, hok1, hok2⟩
      · obtain ⟨rfl, hx, hs⟩ := hE0 rfl
        rcases S with _ | ⟨f0, S⟩
        · obtain ⟨bi, F, q1, q2, q3, q4, q6⟩ := hB.lens
          have hl0 : (([] : List Fr).length : Int) = 0 := rfl
          have hnkR : max nk1 (([] : List Fr).length + 1) ≤ RR.2.2.2 ∨ ¬ (obV x = false ∧ obP x = true ∧ ¬ obCar x = oQuote ∧ ([] : List Fr).length < 300 ∧ k1 < fu) := nk_push hR
          by_cases hpu : obV x = false ∧ obP x = true ∧ ¬ obCar x = oQuote ∧ ([] : List Fr).length < 300 ∧ k1 < fu
          · have hnk2 := hnkR.resolve_right (fun q => q hpu)
            refine pw_iload_n (i := 1) C dX3_finish_2 rfl rfl ?_
            refine pw_ldc (z := 1000000) C ki_X3_62 (by decide) dX3_finish_3 ?_
            refine pw_icmp_ge (tgt := 176) C (by omega) (by omega) dX3_finish_5 (by decide) (fun h_11 => ?_) (fun h_11 => ?_)
            · exfalso; omega
            · refine pw_aload_n (i := 0) C dX3_finish_8 rfl rfl (Or.inr ⟨_, rfl⟩) ?_
              refine pw_get (j := 6) C cl_X3 fl_X3_32 (by decide) rfl q1 rfl dX3_finish_9 ?_
              refine pw_if_ne (tgt := 176) C (by omega) dX3_finish_12 (by decide) (fun h_12 => ?_) (fun h_12 => ?_)
              · exfalso; omega
              · refine pw_aload_n (i := 0) C dX3_finish_15 rfl rfl (Or.inr ⟨_, rfl⟩) ?_
                refine pw_get (j := 3) C cl_X3 fl_X3_35 (by decide) rfl q1 rfl dX3_finish_16 ?_
                refine pw_if_le (tgt := 46) C (by omega) dX3_finish_19 (by decide) (fun h_13 => ?_) (fun h_13 => ?_)
                · refine pw_null C dX3_finish_46 ?_
                  refine pw_astore_n (i := 2) (lv' := [(0, .ref (A 18)), (1, .int (iZ i)), (2, .null)]) C dX3_finish_47 rfl (by decide) (Or.inl rfl) rfl ?_
                  refine pw_aload_n (i := 0) C dX3_finish_48 rfl rfl (Or.inr ⟨_, rfl⟩) ?_
                  refine pw_get (j := 8) C cl_X3 fl_X3_63 (by decide) rfl q1 rfl dX3_finish_49 ?_
                  refine pw_if_ne (tgt := 62) C (by omega) dX3_finish_52 (by decide) (fun h_14 => ?_) (fun h_14 => ?_)
                  · exfalso; omega
                  · refine pw_aload_n (i := 0) C dX3_finish_55 rfl rfl (Or.inr ⟨_, rfl⟩) ?_
                    refine pw_callV (As := []) (st := []) C (m_X3_beginTerm g l (max nk1 ([].length + 1) - nk1) hB hx hs (fun _ _ _ _ _ _ => by omega) (fun q => wf_v q hok1)) my_X3_beginTerm ml_X3_66 (hB.recE C) rfl ⟨Nat.le_of_ble_eq_true rfl, Nat.le_of_ble_eq_true rfl⟩ ⟨by (try dsimp only); omega, by (try dsimp only); omega⟩ rfl (Nat.le_of_ble_eq_true rfl) dX3_finish_56 ?_
                    rintro _ w_15 ⟨rfl, hfr, hpost⟩
                    refine pw_stk (st' := []) rfl ?_
                    refine pw_goto (tgt := 170) C dX3_finish_59 (by decide) ?_
                    refine pw_iinc (lv' := [(0, .ref (A 18)), (1, .int (iZ (i + 1))), (2, .null)]) C dX3_finish_170 rfl (by decide) rfl ?_
                    refine pw_goto (tgt := 2) C dX3_finish_173 (by decide) ?_
                    refine pw_sub [0, 1] rfl ?_
                    refine pw_wide (2 * ((max nk1 (([] : List Fr).length + 1)) - nk)) (13 * ((max nk1 (([] : List Fr).length + 1)) - nk)) (by (try dsimp only); omega) (by (try dsimp only); omega) ?_
                    rw [mRun_0, if_neg (by rw [hpu.1]; decide), if_neg (by rw [hpu.2.1]; decide), if_neg hpu.2.2.1, if_neg (by omega), if_neg (by omega)] at hR
                    rw [if_neg (by rw [hpu.1]; decide), if_neg (by rw [hpu.2.1]; decide), if_neg hpu.2.2.1, if_neg (by omega), if_neg (by omega)] at hpost
                    exact ih (i + 1) w_15 t1 n1 2 oNil [] ((obCar x, obCdr x, [], e1, false) :: ([] : List Fr)) (k1 + 1) (max nk1 (([] : List Fr).length + 1)) (by omega) (by omega) hpost (Or.inr (Or.inr ⟨rfl, _, _, rfl, rfl, ok_push (S := ([] : List Fr)) hpu.2.1 hpu.2.2.1 hok1, hok2⟩)) hext (by have hwl := wF_le T (obCar x, obCdr x, [], e1, false); simp only [wS] at hcp ⊢; omega) (by omega) (fun k hk => (hfr k hk).trans (hf1 k hk)) hR h9
                · exfalso; omega
          · clear hnkR
            refine pw_iload_n (i := 1) C dX3_finish_2 rfl rfl ?_
            refine pw_ldc (z := 1000000) C ki_X3_62 (by decide) dX3_finish_3 ?_
            refine pw_icmp_ge (tgt := 176) C (by omega) (by omega) dX3_finish_5 (by decide) (fun h_61 => ?_) (fun h_61 => ?_)
            · exfalso; omega
            · refine pw_aload_n (i := 0) C dX3_finish_8 rfl rfl (Or.inr ⟨_, rfl⟩) ?_
              refine pw_get (j := 6) C cl_X3 fl_X3_32 (by decide) rfl q1 rfl dX3_finish_9 ?_
              refine pw_if_ne (tgt := 176) C (by omega) dX3_finish_12 (by decide) (fun h_62 => ?_) (fun h_62 => ?_)
              · exfalso; omega
              · refine pw_aload_n (i := 0) C dX3_finish_15 rfl rfl (Or.inr ⟨_, rfl⟩) ?_
                refine pw_get (j := 3) C cl_X3 fl_X3_35 (by decide) rfl q1 rfl dX3_finish_16 ?_
                refine pw_if_le (tgt := 46) C (by omega) dX3_finish_19 (by decide) (fun h_63 => ?_) (fun h_63 => ?_)
                · refine pw_null C dX3_finish_46 ?_
                  refine pw_astore_n (i := 2) (lv' := [(0, .ref (A 18)), (1, .int (iZ i)), (2, .null)]) C dX3_finish_47 rfl (by decide) (Or.inl rfl) rfl ?_
                  refine pw_aload_n (i := 0) C dX3_finish_48 rfl rfl (Or.inr ⟨_, rfl⟩) ?_
                  refine pw_get (j := 8) C cl_X3 fl_X3_63 (by decide) rfl q1 rfl dX3_finish_49 ?_
                  refine pw_if_ne (tgt := 62) C (by omega) dX3_finish_52 (by decide) (fun h_64 => ?_) (fun h_64 => ?_)
                  · exfalso; omega
                  · refine pw_aload_n (i := 0) C dX3_finish_55 rfl rfl (Or.inr ⟨_, rfl⟩) ?_
                    refine pw_callV (As := []) (st := []) C (m_X3_beginTerm g l (0) hB hx hs (fun a b c d e2 f2 => absurd ⟨a, b, c, d, e2⟩ hpu) (fun q => wf_v q hok1)) my_X3_beginTerm ml_X3_66 (hB.recE C) rfl ⟨Nat.le_of_ble_eq_true rfl, Nat.le_of_ble_eq_true rfl⟩ ⟨by (try dsimp only); omega, by (try dsimp only); omega⟩ rfl (Nat.le_of_ble_eq_true rfl) dX3_finish_56 ?_
                    rintro _ w_65 ⟨rfl, hfr, hpost⟩
                    refine pw_stk (st' := []) rfl ?_
                    refine pw_goto (tgt := 170) C dX3_finish_59 (by decide) ?_
                    refine pw_iinc (lv' := [(0, .ref (A 18)), (1, .int (iZ (i + 1))), (2, .null)]) C dX3_finish_170 rfl (by decide) rfl ?_
                    refine pw_goto (tgt := 2) C dX3_finish_173 (by decide) ?_
                    refine pw_sub [0, 1] rfl ?_
                    refine pw_wide (2 * (nk1 - nk)) (13 * (nk1 - nk)) (by (try dsimp only); omega) (by (try dsimp only); omega) ?_
                    rw [mRun_0] at hR
                    by_cases c1 : obV x = true
                    · rw [if_pos c1] at hR hpost
                      exact ih (i + 1) w_65 t1 n1 1 (eLk e1 x) [] ([] : List Fr) k1 nk1 (by omega) (by omega) hpost (Or.inr (Or.inl ⟨rfl, hok2⟩)) hext (by (try simp only [wS, wF_en] at hcp ⊢); omega) (by omega) (fun k hk => (hfr k hk).trans (hf1 k hk)) hR h9
                    rw [if_neg c1] at hR hpost
                    by_cases c2 : obP x = false
                    · rw [if_pos c2] at hR hpost
                      exact ih (i + 1) w_65 t1 n1 1 x [] ([] : List Fr) k1 nk1 (by omega) (by omega) hpost (Or.inr (Or.inl ⟨rfl, hok2⟩)) hext (by (try simp only [wS, wF_en] at hcp ⊢); omega) (by omega) (fun k hk => (hfr k hk).trans (hf1 k hk)) hR h9
                    rw [if_neg c2] at hR hpost
                    by_cases c3 : obCar x = oQuote
                    · rw [if_pos c3] at hR hpost
                      exact ih (i + 1) w_65 t1 n1 1 (obCar (obCdr x)) [] ([] : List Fr) k1 nk1 (by omega) (by omega) hpost (Or.inr (Or.inl ⟨rfl, hok2⟩)) hext (by (try simp only [wS, wF_en] at hcp ⊢); omega) (by omega) (fun k hk => (hfr k hk).trans (hf1 k hk)) hR h9
                    rw [if_neg c3] at hR hpost
                    by_cases c4 : 300 ≤ ([] : List Fr).length
                    · rw [if_pos c4] at hR hpost
                      subst hR; exact endl 2 (i + 1) w_65 t1 n1 ([] : List Fr) k1 nk1 (by decide) (by omega) (by omega) hpost hext (by omega) (fun k hk => (hfr k hk).trans (hf1 k hk)) rfl rfl rfl
                    rw [if_neg c4] at hR hpost
                    by_cases c5 : fu ≤ k1
                    · rw [if_pos c5] at hR hpost
                      subst hR; exact endl 1 (i + 1) w_65 t1 n1 ([] : List Fr) k1 nk1 (by decide) (by omega) (by omega) hpost hext (by omega) (fun k hk => (hfr k hk).trans (hf1 k hk)) rfl rfl rfl
                    rw [if_neg c5] at hR hpost
                    exact absurd ⟨by cases hb : obV x <;> simp_all, by cases hb : obP x <;> simp_all, c3, by omega, by omega⟩ hpu
                · exfalso; omega
        · obtain ⟨nm, r0, vs, e0, en0⟩ := f0
          obtain ⟨bi, F, zn, zr, os, f, q1, q2, q3, q4, q5, q6, q7, q8, q9, q10, q11, q12, q13, q14, q15⟩ := hB.top
          have hnkR : max nk1 (((nm, r0, vs, e0, en0) :: S).length + 1) ≤ RR.2.2.2 ∨ ¬ (obV x = false ∧ obP x = true ∧ ¬ obCar x = oQuote ∧ ((nm, r0, vs, e0, en0) :: S).length < 300 ∧ k1 < fu) := nk_push hR
          by_cases hpu : obV x = false ∧ obP x = true ∧ ¬ obCar x = oQuote ∧ ((nm, r0, vs, e0, en0) :: S).length < 300 ∧ k1 < fu
          · have hnk2 := hnkR.resolve_right (fun q => q hpu)
            have hpl := hpu.2.2.2
            have hl1 : ((nm, r0, vs, e0, en0) :: S).length = S.length + 1 := rfl
            refine pw_iload_n (i := 1) C dX3_finish_2 rfl rfl ?_
            refine pw_ldc (z := 1000000) C ki_X3_62 (by decide) dX3_finish_3 ?_
            refine pw_icmp_ge (tgt := 176) C (by omega) (by omega) dX3_finish_5 (by decide) (fun h_111 => ?_) (fun h_111 => ?_)
            · exfalso; omega
            · refine pw_aload_n (i := 0) C dX3_finish_8 rfl rfl (Or.inr ⟨_, rfl⟩) ?_
              refine pw_get (j := 6) C cl_X3 fl_X3_32 (by decide) rfl q1 rfl dX3_finish_9 ?_
              refine pw_if_ne (tgt := 176) C (by omega) dX3_finish_12 (by decide) (fun h_112 => ?_) (fun h_112 => ?_)
              · exfalso; omega
              · refine pw_aload_n (i := 0) C dX3_finish_15 rfl rfl (Or.inr ⟨_, rfl⟩) ?_
                refine pw_get (j := 3) C cl_X3 fl_X3_35 (by decide) rfl q1 rfl dX3_finish_16 ?_
                refine pw_if_le (tgt := 46) C (by omega) dX3_finish_19 (by decide) (fun h_113 => ?_) (fun h_113 => ?_)
                · exfalso; omega
                · refine pw_aload_n (i := 0) C dX3_finish_22 rfl rfl (Or.inr ⟨_, rfl⟩) ?_
                  refine pw_get (j := 3) C cl_X3 fl_X3_35 (by decide) rfl q1 rfl dX3_finish_23 ?_
                  refine pw_sipush C dX3_finish_26 (by decide) ?_
                  refine pw_icmp_gt (tgt := 46) C (by omega) (by omega) dX3_finish_29 (by decide) (fun h_114 => ?_) (fun h_114 => ?_)
                  · exfalso; omega
                  · refine pw_aload_n (i := 0) C dX3_finish_32 rfl rfl (Or.inr ⟨_, rfl⟩) ?_
                    refine pw_get (j := 2) C cl_X3 fl_X3_13 (by decide) rfl q1 rfl dX3_finish_33 ?_
                    refine pw_aload_n (i := 0) C dX3_finish_36 rfl rfl (Or.inr ⟨_, rfl⟩) ?_
                    refine pw_get (j := 3) C cl_X3 fl_X3_35 (by decide) rfl q1 rfl dX3_finish_37 ?_
                    refine pw_iconst C dX3_finish_40 ?_
                    refine pw_isub C dX3_finish_41 ?_
                    refine pw_aald C q2 rfl ⟨by omega, by omega, by omega⟩ dX3_finish_42 ?_
                    rw [show ((((S.length : Nat) : Int) + 1) - 1).toNat = S.length by omega, q3]
                    refine pw_stk (st' := [.ref (K S.length)]) rfl ?_
                    refine pw_goto (tgt := 47) C dX3_finish_43 (by decide) ?_
                    refine pw_astore_n (i := 2) (lv' := [(0, .ref (A 18)), (1, .int (iZ i)), (2, .ref (K S.length))]) C dX3_finish_47 rfl (by decide) (Or.inr ⟨_, rfl⟩) rfl ?_
                    refine pw_aload_n (i := 0) C dX3_finish_48 rfl rfl (Or.inr ⟨_, rfl⟩) ?_
                    refine pw_get (j := 8) C cl_X3 fl_X3_63 (by decide) rfl q1 rfl dX3_finish_49 ?_
                    refine pw_if_ne (tgt := 62) C (by omega) dX3_finish_52 (by decide) (fun h_115 => ?_) (fun h_115 => ?_)
                    · exfalso; omega
                    · refine pw_aload_n (i := 0) C dX3_finish_55 rfl rfl (Or.inr ⟨_, rfl⟩) ?_
                      refine pw_callV (As := []) (st := []) C (m_X3_beginTerm g l (max nk1 (((nm, r0, vs, e0, en0) :: S).length + 1) - nk1) hB hx hs (fun _ _ _ _ _ _ => by omega) (fun q => wf_v q hok1)) my_X3_beginTerm ml_X3_66 (hB.recE C) rfl ⟨Nat.le_of_ble_eq_true rfl, Nat.le_of_ble_eq_true rfl⟩ ⟨by (try dsimp only); omega, by (try dsimp only); omega⟩ rfl (Nat.le_of_ble_eq_true rfl) dX3_finish_56 ?_
                      rintro _ w_116 ⟨rfl, hfr, hpost⟩
                      refine pw_stk (st' := []) rfl ?_
                      refine pw_goto (tgt := 170) C dX3_finish_59 (by decide) ?_
                      refine pw_iinc (lv' := [(0, .ref (A 18)), (1, .int (iZ (i + 1))), (2, .ref (K S.length))]) C dX3_finish_170 rfl (by decide) rfl ?_
                      refine pw_goto (tgt := 2) C dX3_finish_173 (by decide) ?_
                      refine pw_sub [0, 1] rfl ?_
                      refine pw_wide (2 * ((max nk1 (((nm, r0, vs, e0, en0) :: S).length + 1)) - nk)) (13 * ((max nk1 (((nm, r0, vs, e0, en0) :: S).length + 1)) - nk)) (by (try dsimp only); omega) (by (try dsimp only); omega) ?_
                      rw [mRun_0, if_neg (by rw [hpu.1]; decide), if_neg (by rw [hpu.2.1]; decide), if_neg hpu.2.2.1, if_neg (by omega), if_neg (by omega)] at hR
                      rw [if_neg (by rw [hpu.1]; decide), if_neg (by rw [hpu.2.1]; decide), if_neg hpu.2.2.1, if_neg (by omega), if_neg (by omega)] at hpost
                      exact ih (i + 1) w_116 t1 n1 2 oNil [] ((obCar x, obCdr x, [], e1, false) :: ((nm, r0, vs, e0, en0) :: S)) (k1 + 1) (max nk1 (((nm, r0, vs, e0, en0) :: S).length + 1)) (by omega) (by omega) hpost (Or.inr (Or.inr ⟨rfl, _, _, rfl, rfl, ok_push (S := ((nm, r0, vs, e0, en0) :: S)) hpu.2.1 hpu.2.2.1 hok1, hok2⟩)) hext (by have hwl := wF_le T (obCar x, obCdr x, [], e1, false); simp only [wS] at hcp ⊢; omega) (by omega) (fun k hk => (hfr k hk).trans (hf1 k hk)) hR h9
          · clear hnkR
            have hl1 : ((nm, r0, vs, e0, en0) :: S).length = S.length + 1 := rfl
            refine pw_iload_n (i := 1) C dX3_finish_2 rfl rfl ?_
            refine pw_ldc (z := 1000000) C ki_X3_62 (by decide) dX3_finish_3 ?_
            refine pw_icmp_ge (tgt := 176) C (by omega) (by omega) dX3_finish_5 (by decide) (fun h_161 => ?_) (fun h_161 => ?_)
            · exfalso; omega
            · refine pw_aload_n (i := 0) C dX3_finish_8 rfl rfl (Or.inr ⟨_, rfl⟩) ?_
              refine pw_get (j := 6) C cl_X3 fl_X3_32 (by decide) rfl q1 rfl dX3_finish_9 ?_
              refine pw_if_ne (tgt := 176) C (by omega) dX3_finish_12 (by decide) (fun h_162 => ?_) (fun h_162 => ?_)
              · exfalso; omega
              · refine pw_aload_n (i := 0) C dX3_finish_15 rfl rfl (Or.inr ⟨_, rfl⟩) ?_
                refine pw_get (j := 3) C cl_X3 fl_X3_35 (by decide) rfl q1 rfl dX3_finish_16 ?_
                refine pw_if_le (tgt := 46) C (by omega) dX3_finish_19 (by decide) (fun h_163 => ?_) (fun h_163 => ?_)
                · exfalso; omega
                · refine pw_aload_n (i := 0) C dX3_finish_22 rfl rfl (Or.inr ⟨_, rfl⟩) ?_
                  refine pw_get (j := 3) C cl_X3 fl_X3_35 (by decide) rfl q1 rfl dX3_finish_23 ?_
                  refine pw_sipush C dX3_finish_26 (by decide) ?_
                  refine pw_icmp_gt (tgt := 46) C (by omega) (by omega) dX3_finish_29 (by decide) (fun h_164 => ?_) (fun h_164 => ?_)
                  · exfalso; omega
                  · refine pw_aload_n (i := 0) C dX3_finish_32 rfl rfl (Or.inr ⟨_, rfl⟩) ?_
                    refine pw_get (j := 2) C cl_X3 fl_X3_13 (by decide) rfl q1 rfl dX3_finish_33 ?_
                    refine pw_aload_n (i := 0) C dX3_finish_36 rfl rfl (Or.inr ⟨_, rfl⟩) ?_
                    refine pw_get (j := 3) C cl_X3 fl_X3_35 (by decide) rfl q1 rfl dX3_finish_37 ?_
                    refine pw_iconst C dX3_finish_40 ?_
                    refine pw_isub C dX3_finish_41 ?_
                    refine pw_aald C q2 rfl ⟨by omega, by omega, by omega⟩ dX3_finish_42 ?_
                    rw [show ((((S.length : Nat) : Int) + 1) - 1).toNat = S.length by omega, q3]
                    refine pw_stk (st' := [.ref (K S.length)]) rfl ?_
                    refine pw_goto (tgt := 47) C dX3_finish_43 (by decide) ?_
                    refine pw_astore_n (i := 2) (lv' := [(0, .ref (A 18)), (1, .int (iZ i)), (2, .ref (K S.length))]) C dX3_finish_47 rfl (by decide) (Or.inr ⟨_, rfl⟩) rfl ?_
                    refine pw_aload_n (i := 0) C dX3_finish_48 rfl rfl (Or.inr ⟨_, rfl⟩) ?_
                    refine pw_get (j := 8) C cl_X3 fl_X3_63 (by decide) rfl q1 rfl dX3_finish_49 ?_
                    refine pw_if_ne (tgt := 62) C (by omega) dX3_finish_52 (by decide) (fun h_165 => ?_) (fun h_165 => ?_)
                    · exfalso; omega
                    · refine pw_aload_n (i := 0) C dX3_finish_55 rfl rfl (Or.inr ⟨_, rfl⟩) ?_
                      refine pw_callV (As := []) (st := []) C (m_X3_beginTerm g l (0) hB hx hs (fun a b c d e2 f2 => absurd ⟨a, b, c, d, e2⟩ hpu) (fun q => wf_v q hok1)) my_X3_beginTerm ml_X3_66 (hB.recE C) rfl ⟨Nat.le_of_ble_eq_true rfl, Nat.le_of_ble_eq_true rfl⟩ ⟨by (try dsimp only); omega, by (try dsimp only); omega⟩ rfl (Nat.le_of_ble_eq_true rfl) dX3_finish_56 ?_
                      rintro _ w_166 ⟨rfl, hfr, hpost⟩
                      refine pw_stk (st' := []) rfl ?_
                      refine pw_goto (tgt := 170) C dX3_finish_59 (by decide) ?_
                      refine pw_iinc (lv' := [(0, .ref (A 18)), (1, .int (iZ (i + 1))), (2, .ref (K S.length))]) C dX3_finish_170 rfl (by decide) rfl ?_
                      refine pw_goto (tgt := 2) C dX3_finish_173 (by decide) ?_
                      refine pw_sub [0, 1] rfl ?_
                      refine pw_wide (2 * (nk1 - nk)) (13 * (nk1 - nk)) (by (try dsimp only); omega) (by (try dsimp only); omega) ?_
                      rw [mRun_0] at hR
                      by_cases c1 : obV x = true
                      · rw [if_pos c1] at hR hpost
                        exact ih (i + 1) w_166 t1 n1 1 (eLk e1 x) [] ((nm, r0, vs, e0, en0) :: S) k1 nk1 (by omega) (by omega) hpost (Or.inr (Or.inl ⟨rfl, hok2⟩)) hext (by (try simp only [wS, wF_en] at hcp ⊢); omega) (by omega) (fun k hk => (hfr k hk).trans (hf1 k hk)) hR h9
                      rw [if_neg c1] at hR hpost
                      by_cases c2 : obP x = false
                      · rw [if_pos c2] at hR hpost
                        exact ih (i + 1) w_166 t1 n1 1 x [] ((nm, r0, vs, e0, en0) :: S) k1 nk1 (by omega) (by omega) hpost (Or.inr (Or.inl ⟨rfl, hok2⟩)) hext (by (try simp only [wS, wF_en] at hcp ⊢); omega) (by omega) (fun k hk => (hfr k hk).trans (hf1 k hk)) hR h9
                      rw [if_neg c2] at hR hpost
                      by_cases c3 : obCar x = oQuote
                      · rw [if_pos c3] at hR hpost
                        exact ih (i + 1) w_166 t1 n1 1 (obCar (obCdr x)) [] ((nm, r0, vs, e0, en0) :: S) k1 nk1 (by omega) (by omega) hpost (Or.inr (Or.inl ⟨rfl, hok2⟩)) hext (by (try simp only [wS, wF_en] at hcp ⊢); omega) (by omega) (fun k hk => (hfr k hk).trans (hf1 k hk)) hR h9
                      rw [if_neg c3] at hR hpost
                      by_cases c4 : 300 ≤ ((nm, r0, vs, e0, en0) :: S).length
                      · rw [if_pos c4] at hR hpost
                        subst hR; exact endl 2 (i + 1) w_166 t1 n1 ((nm, r0, vs, e0, en0) :: S) k1 nk1 (by decide) (by omega) (by omega) hpost hext (by omega) (fun k hk => (hfr k hk).trans (hf1 k hk)) rfl rfl rfl
                      rw [if_neg c4] at hR hpost
                      by_cases c5 : fu ≤ k1
                      · rw [if_pos c5] at hR hpost
                        subst hR; exact endl 1 (i + 1) w_166 t1 n1 ((nm, r0, vs, e0, en0) :: S) k1 nk1 (by decide) (by omega) (by omega) hpost hext (by omega) (fun k hk => (hfr k hk).trans (hf1 k hk)) rfl rfl rfl
                      rw [if_neg c5] at hR hpost
                      exact absurd ⟨by cases hb : obV x <;> simp_all, by cases hb : obP x <;> simp_all, c3, by omega, by omega⟩ hpu
      · obtain ⟨rfl, hx⟩ := hE1 rfl
        rcases S with _ | ⟨f0, S⟩
        · obtain ⟨bi, F, q1, q2, q3, q4, q6⟩ := hB.lens
          have hl0 : (([] : List Fr).length : Int) = 0 := rfl
          rw [mRun_1n] at hR
          have hRa : 0 = RR.1 := by rw [← hR]
          have hRb : x = RR.2.1 := by rw [← hR]
          have hRc : k1 = RR.2.2.1 := by rw [← hR]
          have hRd : nk1 = RR.2.2.2 := by rw [← hR]
          simp only [wS] at hcp
          refine pw_iload_n (i := 1) C dX3_finish_2 rfl rfl ?_
          refine pw_ldc (z := 1000000) C ki_X3_62 (by decide) dX3_finish_3 ?_
          refine pw_icmp_ge (tgt := 176) C (by omega) (by omega) dX3_finish_5 (by decide) (fun h_201 => ?_) (fun h_201 => ?_)
          · exfalso; omega
          · refine pw_aload_n (i := 0) C dX3_finish_8 rfl rfl (Or.inr ⟨_, rfl⟩) ?_
            refine pw_get (j := 6) C cl_X3 fl_X3_32 (by decide) rfl q1 rfl dX3_finish_9 ?_
            refine pw_if_ne (tgt := 176) C (by omega) dX3_finish_12 (by decide) (fun h_202 => ?_) (fun h_202 => ?_)
            · exfalso; omega
            · refine pw_aload_n (i := 0) C dX3_finish_15 rfl rfl (Or.inr ⟨_, rfl⟩) ?_
              refine pw_get (j := 3) C cl_X3 fl_X3_35 (by decide) rfl q1 rfl dX3_finish_16 ?_
              refine pw_if_le (tgt := 46) C (by omega) dX3_finish_19 (by decide) (fun h_203 => ?_) (fun h_203 => ?_)
              · refine pw_null C dX3_finish_46 ?_
                refine pw_astore_n (i := 2) (lv' := [(0, .ref (A 18)), (1, .int (iZ i)), (2, .null)]) C dX3_finish_47 rfl (by decide) (Or.inl rfl) rfl ?_
                refine pw_aload_n (i := 0) C dX3_finish_48 rfl rfl (Or.inr ⟨_, rfl⟩) ?_
                refine pw_get (j := 8) C cl_X3 fl_X3_63 (by decide) rfl q1 rfl dX3_finish_49 ?_
                refine pw_if_ne (tgt := 62) C (by omega) dX3_finish_52 (by decide) (fun h_204 => ?_) (fun h_204 => ?_)
                · refine pw_aload_n (i := 2) C dX3_finish_62 rfl rfl (Or.inl rfl) ?_
                  refine pw_ifnonnullZ C dX3_finish_63 ?_
                  refine pw_aload_n (i := 0) C dX3_finish_66 rfl rfl (Or.inr ⟨_, rfl⟩) ?_
                  refine pw_get (j := 11) C cl_X3 fl_X3_69 (by decide) rfl q1 rfl dX3_finish_67 ?_
                  refine pw_wide (2 * (RR.2.2.2 - nk)) (13 * (RR.2.2.2 - nk)) (by omega) (by omega) ?_
                  exact pw_iret C hr dX3_finish_70 ⟨vl, t1, n1, [], rfl, hf1, hext, by omega, ⟨K, V, 1, tm, sc, vl, by rw [← hRa, ← hRc, ← hRd]; exact hB, (fun h => by cases h), (fun h => by cases h), (fun h => by cases h)⟩, (fun _ => by rw [← hRb]; exact hx), (fun h => absurd hRa.symm h)⟩
                · exfalso; omega
              · exfalso; omega
        · obtain ⟨nm, r0, vs, e0, en0⟩ := f0
          obtain ⟨bi, F, zn, zr, os, f, q1, q2, q3, q4, q5, q6, q7, q8, q9, q10, q11, q12, q13, q14, q15⟩ := hB.top
          have hv6 : en0 = false → vs.length < 6 := by
            intro q
            subst q
            have h1 := (hok2.1.2.2 rfl).1
            have h2 := arT_le hT nm
            have h3 := hok2.1.1
            simp only at h1 h3
            omega
          simp only [wS] at hcp
          refine pw_iload_n (i := 1) C dX3_finish_2 rfl rfl ?_
          refine pw_ldc (z := 1000000) C ki_X3_62 (by decide) dX3_finish_3 ?_
          refine pw_icmp_ge (tgt := 176) C (by omega) (by omega) dX3_finish_5 (by decide) (fun h_241 => ?_) (fun h_241 => ?_)
          · exfalso; omega
          · refine pw_aload_n (i := 0) C dX3_finish_8 rfl rfl (Or.inr ⟨_, rfl⟩) ?_
            refine pw_get (j := 6) C cl_X3 fl_X3_32 (by decide) rfl q1 rfl dX3_finish_9 ?_
            refine pw_if_ne (tgt := 176) C (by omega) dX3_finish_12 (by decide) (fun h_242 => ?_) (fun h_242 => ?_)
            · exfalso; omega
            · refine pw_aload_n (i := 0) C dX3_finish_15 rfl rfl (Or.inr ⟨_, rfl⟩) ?_
              refine pw_get (j := 3) C cl_X3 fl_X3_35 (by decide) rfl q1 rfl dX3_finish_16 ?_
              refine pw_if_le (tgt := 46) C (by omega) dX3_finish_19 (by decide) (fun h_243 => ?_) (fun h_243 => ?_)
              · exfalso; omega
              · refine pw_aload_n (i := 0) C dX3_finish_22 rfl rfl (Or.inr ⟨_, rfl⟩) ?_
                refine pw_get (j := 3) C cl_X3 fl_X3_35 (by decide) rfl q1 rfl dX3_finish_23 ?_
                refine pw_sipush C dX3_finish_26 (by decide) ?_
                refine pw_icmp_gt (tgt := 46) C (by omega) (by omega) dX3_finish_29 (by decide) (fun h_244 => ?_) (fun h_244 => ?_)
                · exfalso; omega
                · refine pw_aload_n (i := 0) C dX3_finish_32 rfl rfl (Or.inr ⟨_, rfl⟩) ?_
                  refine pw_get (j := 2) C cl_X3 fl_X3_13 (by decide) rfl q1 rfl dX3_finish_33 ?_
                  refine pw_aload_n (i := 0) C dX3_finish_36 rfl rfl (Or.inr ⟨_, rfl⟩) ?_
                  refine pw_get (j := 3) C cl_X3 fl_X3_35 (by decide) rfl q1 rfl dX3_finish_37 ?_
                  refine pw_iconst C dX3_finish_40 ?_
                  refine pw_isub C dX3_finish_41 ?_
                  refine pw_aald C q2 rfl ⟨by omega, by omega, by omega⟩ dX3_finish_42 ?_
                  rw [show ((((S.length : Nat) : Int) + 1) - 1).toNat = S.length by omega, q3]
                  refine pw_stk (st' := [.ref (K S.length)]) rfl ?_
                  refine pw_goto (tgt := 47) C dX3_finish_43 (by decide) ?_
                  refine pw_astore_n (i := 2) (lv' := [(0, .ref (A 18)), (1, .int (iZ i)), (2, .ref (K S.length))]) C dX3_finish_47 rfl (by decide) (Or.inr ⟨_, rfl⟩) rfl ?_
                  refine pw_aload_n (i := 0) C dX3_finish_48 rfl rfl (Or.inr ⟨_, rfl⟩) ?_
                  refine pw_get (j := 8) C cl_X3 fl_X3_63 (by decide) rfl q1 rfl dX3_finish_49 ?_
                  refine pw_if_ne (tgt := 62) C (by omega) dX3_finish_52 (by decide) (fun h_245 => ?_) (fun h_245 => ?_)
                  · refine pw_aload_n (i := 2) C dX3_finish_62 rfl rfl (Or.inr ⟨_, rfl⟩) ?_
                    refine pw_ifnonnullR (tgt := 71) C dX3_finish_63 (by decide) ?_
                    refine pw_aload_n (i := 0) C dX3_finish_71 rfl rfl (Or.inr ⟨_, rfl⟩) ?_
                    refine pw_get (j := 8) C cl_X3 fl_X3_63 (by decide) rfl q1 rfl dX3_finish_72 ?_
                    refine pw_iconst C dX3_finish_75 ?_
                    refine pw_icmp_ne (tgt := 87) C (by omega) (by omega) dX3_finish_76 (by decide) (fun h_247 => ?_) (fun h_247 => ?_)
                    · exfalso; omega
                    · refine pw_aload_n (i := 0) C dX3_finish_79 rfl rfl (Or.inr ⟨_, rfl⟩) ?_
                      refine pw_aload_n (i := 2) C dX3_finish_80 rfl rfl (Or.inr ⟨_, rfl⟩) ?_
                      refine pw_callV (As := [.ref (K S.length)]) (st := []) C (m_X3_handOverValue g l hB rfl hx (fun q => hv6 q)) my_X3_handOverValue ml_X3_72 (hB.recE C) rfl ⟨Nat.le_of_ble_eq_true rfl, Nat.le_of_ble_eq_true rfl⟩ ⟨by (try dsimp only); omega, by (try dsimp only); omega⟩ rfl (Nat.le_of_ble_eq_true rfl) dX3_finish_81 ?_
                      rintro _ w_248 ⟨rfl, hfr, hpost⟩
                      refine pw_stk (st' := []) rfl ?_
                      refine pw_goto (tgt := 170) C dX3_finish_84 (by decide) ?_
                      refine pw_iinc (lv' := [(0, .ref (A 18)), (1, .int (iZ (i + 1))), (2, .ref (K S.length))]) C dX3_finish_170 rfl (by decide) rfl ?_
                      refine pw_goto (tgt := 2) C dX3_finish_173 (by decide) ?_
                      refine pw_sub [0, 1] rfl ?_
                      refine pw_wide (2 * (nk1 - nk)) (13 * (nk1 - nk)) (by (try dsimp only); omega) (by (try dsimp only); omega) ?_
                      rw [mRun_1] at hR
                      by_cases c1 : en0 = true
                      · rw [if_pos c1] at hR hpost
                        exact ih (i + 1) w_248 t1 n1 1 x [] S k1 nk1 (by omega) (by omega) hpost (Or.inr (Or.inl ⟨rfl, hok2.2⟩)) hext (by (try simp only [wS, wF_en] at hcp ⊢); omega) (by omega) (fun k hk => (hfr k hk).trans (hf1 k hk)) hR h9
                      rw [if_neg c1] at hR hpost
                      have ce : en0 = false := by cases en0 <;> simp_all
                      subst ce
                      by_cases c2 : nm = yK 3
                      · rw [if_pos c2] at hR hpost
                        have hoi := ok_if (x := x) (c2 ▸ hok2.1)
                        rw [← c2] at hoi
                        exact ih (i + 1) w_248 t1 n1 0 _ e0 ((nm, r0, vs, e0, true) :: S) k1 nk1 (by omega) (by omega) hpost (Or.inl ⟨rfl, hoi.1, hoi.2, hok2.2⟩) hext (by (try simp only [wS, wF_en] at hcp ⊢); omega) (by omega) (fun k hk => (hfr k hk).trans (hf1 k hk)) hR h9
                      rw [if_neg c2] at hR hpost
                      have hoa := ok_add (x := x) hT c2 hok2.1
                      exact ih (i + 1) w_248 t1 n1 2 oNil [] ((nm, r0, vs ++ [x], e0, false) :: S) k1 nk1 (by omega) (by omega) hpost (Or.inr (Or.inr ⟨rfl, _, _, rfl, rfl, hoa.1, hok2.2⟩)) hext (by have hws : wF T (nm, r0, vs ++ [x], e0, false) = wF T (nm, r0, vs, e0, false) := rfl; simp only [wS] at hcp ⊢; omega) (by omega) (fun k hk => (hfr k hk).trans (hf1 k hk)) hR h9
                  · exfalso; omega
      · have hmv := hE2 rfl
        subst hmv
        obtain ⟨nm, r0, vs, e0, en0⟩ := f0
        simp only at hok0
        subst hok0
        obtain ⟨bi, F, zn, zr, os, f, q1, q2, q3, q4, q5, q6, q7, q8, q9, q10, q11, q12, q13, q14, q15⟩ := hB.top
        have hzn := Vl.rng hS q8
        have hzr := Vl.rng hS q9
        simp only [wS] at hcp
        refine pw_iload_n (i := 1) C dX3_finish_2 rfl rfl ?_
        refine pw_ldc (z := 1000000) C ki_X3_62 (by decide) dX3_finish_3 ?_
        refine pw_icmp_ge (tgt := 176) C (by omega) (by omega) dX3_finish_5 (by decide) (fun h_301 => ?_) (fun h_301 => ?_)
        · exfalso; omega
        · refine pw_aload_n (i := 0) C dX3_finish_8 rfl rfl (Or.inr ⟨_, rfl⟩) ?_
          refine pw_get (j := 6) C cl_X3 fl_X3_32 (by decide) rfl q1 rfl dX3_finish_9 ?_
          refine pw_if_ne (tgt := 176) C (by omega) dX3_finish_12 (by decide) (fun h_302 => ?_) (fun h_302 => ?_)
          · exfalso; omega
          · refine pw_aload_n (i := 0) C dX3_finish_15 rfl rfl (Or.inr ⟨_, rfl⟩) ?_
            refine pw_get (j := 3) C cl_X3 fl_X3_35 (by decide) rfl q1 rfl dX3_finish_16 ?_
            refine pw_if_le (tgt := 46) C (by omega) dX3_finish_19 (by decide) (fun h_303 => ?_) (fun h_303 => ?_)
            · exfalso; omega
            · refine pw_aload_n (i := 0) C dX3_finish_22 rfl rfl (Or.inr ⟨_, rfl⟩) ?_
              refine pw_get (j := 3) C cl_X3 fl_X3_35 (by decide) rfl q1 rfl dX3_finish_23 ?_
              refine pw_sipush C dX3_finish_26 (by decide) ?_
              refine pw_icmp_gt (tgt := 46) C (by omega) (by omega) dX3_finish_29 (by decide) (fun h_304 => ?_) (fun h_304 => ?_)
              · exfalso; omega
              · refine pw_aload_n (i := 0) C dX3_finish_32 rfl rfl (Or.inr ⟨_, rfl⟩) ?_
                refine pw_get (j := 2) C cl_X3 fl_X3_13 (by decide) rfl q1 rfl dX3_finish_33 ?_
                refine pw_aload_n (i := 0) C dX3_finish_36 rfl rfl (Or.inr ⟨_, rfl⟩) ?_
                refine pw_get (j := 3) C cl_X3 fl_X3_35 (by decide) rfl q1 rfl dX3_finish_37 ?_
                refine pw_iconst C dX3_finish_40 ?_
                refine pw_isub C dX3_finish_41 ?_
                refine pw_aald C q2 rfl ⟨by omega, by omega, by omega⟩ dX3_finish_42 ?_
                rw [show ((((S.length : Nat) : Int) + 1) - 1).toNat = S.length by omega, q3]
                refine pw_stk (st' := [.ref (K S.length)]) rfl ?_
                refine pw_goto (tgt := 47) C dX3_finish_43 (by decide) ?_
                refine pw_astore_n (i := 2) (lv' := [(0, .ref (A 18)), (1, .int (iZ i)), (2, .ref (K S.length))]) C dX3_finish_47 rfl (by decide) (Or.inr ⟨_, rfl⟩) rfl ?_
                refine pw_aload_n (i := 0) C dX3_finish_48 rfl rfl (Or.inr ⟨_, rfl⟩) ?_
                refine pw_get (j := 8) C cl_X3 fl_X3_63 (by decide) rfl q1 rfl dX3_finish_49 ?_
                refine pw_if_ne (tgt := 62) C (by omega) dX3_finish_52 (by decide) (fun h_305 => ?_) (fun h_305 => ?_)
                · refine pw_aload_n (i := 2) C dX3_finish_62 rfl rfl (Or.inr ⟨_, rfl⟩) ?_
                  refine pw_ifnonnullR (tgt := 71) C dX3_finish_63 (by decide) ?_
                  refine pw_aload_n (i := 0) C dX3_finish_71 rfl rfl (Or.inr ⟨_, rfl⟩) ?_
                  refine pw_get (j := 8) C cl_X3 fl_X3_63 (by decide) rfl q1 rfl dX3_finish_72 ?_
                  refine pw_iconst C dX3_finish_75 ?_
                  refine pw_icmp_ne (tgt := 87) C (by omega) (by omega) dX3_finish_76 (by decide) (fun h_307 => ?_) (fun h_307 => ?_)
                  · refine pw_aload_n (i := 0) C dX3_finish_87 rfl rfl (Or.inr ⟨_, rfl⟩) ?_
                    refine pw_get (j := 0) C cl_X3 fl_X3_21 (by decide) rfl q1 rfl dX3_finish_88 ?_
                    refine pw_aload_n (i := 2) C dX3_finish_91 rfl rfl (Or.inr ⟨_, rfl⟩) ?_
                    refine pw_getN (j := 4) C cl_X0 fn_X3_76 (by decide) rfl q5 rfl dX3_finish_92 ?_
                    refine pw_callV (As := [.int (iZ zr)]) (st := []) C (vr_isPair hS q9) my_X6_isPair ml_X3_79 (hS.rec C) rfl ⟨Nat.le_of_ble_eq_true rfl, Nat.le_of_ble_eq_true rfl⟩ ⟨by (try dsimp only); omega, by (try dsimp only); omega⟩ rfl (Nat.le_of_ble_eq_true rfl) dX3_finish_95 ?_
                    rintro _ _ ⟨rfl, rfl⟩
                    refine pw_stk (st' := [.int (iZ (b2i (obP r0)))]) rfl ?_
                    refine pw_if_eqB (tgt := 138) C dX3_finish_98 (by decide) (fun h_308 => ?_) (fun h_308 => ?_)
                    · have hp := h_308
                      refine pw_aload_n (i := 2) C dX3_finish_138 rfl rfl (Or.inr ⟨_, rfl⟩) ?_
                      refine pw_getN (j := 3) C cl_X0 fn_X3_93 (by decide) rfl q5 rfl dX3_finish_139 ?_
                      rcases DsT.look hS q8 0 hD with ⟨l1, l2⟩ | ⟨j0, d, D1, l1, l2, l3, l4, l5, l6, l7, l8, l9⟩
                      · rw [l1]
                        refine pw_ifnull (v := none) (tgt := 165) C dX3_finish_142 (by decide) (fun _ => ?_) (fun a h => by cases h)
                        refine pw_aload_n (i := 0) C dX3_finish_165 rfl rfl (Or.inr ⟨_, rfl⟩) ?_
                        refine pw_aload_n (i := 2) C dX3_finish_166 rfl rfl (Or.inr ⟨_, rfl⟩) ?_
                        obtain ⟨hk4, hkl⟩ := ok_base hp l2 hok1
                        have hwb := wF_b (r := r0) (vs := vs) (e := e0) l2
                        refine pw_callV (As := [.ref (K S.length)]) (st := []) C (m_X3_applyBase g l hB hk4 hkl (by omega)) my_X3_applyBase ml_X3_104 (hB.recE C) rfl ⟨Nat.le_of_ble_eq_true rfl, Nat.le_of_ble_eq_true rfl⟩ ⟨by (try dsimp only); omega, by (try dsimp only); omega⟩ rfl (Nat.le_of_ble_eq_true rfl) dX3_finish_167 ?_
                        rintro _ w_309 ⟨rfl, hfr, t2, n2, hx2, hn2, hpost⟩
                        refine pw_stk (st' := []) rfl ?_
                        refine pw_iinc (lv' := [(0, .ref (A 18)), (1, .int (iZ (i + 1))), (2, .ref (K S.length))]) C dX3_finish_170 rfl (by decide) rfl ?_
                        refine pw_goto (tgt := 2) C dX3_finish_173 (by decide) ?_
                        refine pw_sub [0, 1] rfl ?_
                        refine pw_wide (2 * (nk1 - nk)) (13 * (nk1 - nk)) (by (try dsimp only); omega) (by (try dsimp only); omega) ?_
                        rw [mRun_2] at hR
                        rw [if_neg (by rw [hp]; decide), l2] at hR
                        simp only at hR
                        cases hbf : baseF (kIx nm) (vs.getD 0 oNil) (vs.getD 1 oNil) with
                        | some v =>
                          rw [hbf] at hR hpost
                          simp only at hR hpost
                          exact ih (i + 1) w_309 t2 n2 1 v [] S k1 nk1 (by omega) (by omega) hpost (Or.inr (Or.inl ⟨rfl, hok2⟩)) (hext.tr hx2) (by (try simp only [wS, wF_en] at hcp ⊢); omega) (by omega) (fun k hk => (hfr k hk).trans (hf1 k hk)) hR h9
                        | none =>
                          rw [hbf] at hR hpost
                          simp only at hR hpost
                          subst hR; exact endl 3 (i + 1) w_309 t2 n2 S k1 nk1 (by decide) (by omega) (by omega) hpost (hext.tr hx2) (by omega) (fun k hk => (hfr k hk).trans (hf1 k hk)) rfl rfl rfl
                      · obtain ⟨hd1, hd2⟩ := hF.get l2
                        have hd3 := hd2.2.2.2
                        rw [l1, Nat.zero_add]
                        refine pw_ifnull (v := some (D j0)) (tgt := 165) C dX3_finish_142 (by decide) (fun h => by cases h) (fun a h => ?_)
                        clear h
                        rw [Nat.zero_add] at l1
                        have q5b := q5
                        rw [l1] at q5b
                        have hj0 : j0 < 40 := by have h1 := (List.getElem?_eq_some_iff.mp l2).1; have h2 := hF.len; omega
                        refine pw_aload_n (i := 2) C dX3_finish_145 rfl rfl (Or.inr ⟨_, rfl⟩) ?_
                        refine pw_iconst C dX3_finish_146 ?_
                        refine pw_putN (j := 6) C cl_X0 fn_X3_97 (by decide) rfl rfl rfl (by decide +kernel) (by decide +kernel) q5b (Nat.le_of_ble_eq_true rfl) dX3_finish_147 (fun w_312 k_310 o_311 => ?_)
                        have k_313 : w_312 (200 + S.length) = ((K S.length), some (OB 0 [.ref (V S.length), .int (iZ ((vs.length : Nat) : Int)), .int (iZ zn), .ref (D j0), .int (iZ zr), va_rf os, .int (iZ 1)])) := k_310
                        refine pw_aload_n (i := 0) C dX3_finish_150 rfl rfl (Or.inr ⟨_, rfl⟩) ?_
                        refine pw_aload_n (i := 2) C dX3_finish_151 rfl rfl (Or.inr ⟨_, rfl⟩) ?_
                        refine pw_getN (j := 3) C cl_X0 fn_X3_93 (by decide) rfl k_313 rfl dX3_finish_152 ?_
                        have c_314 := (o_311 (100 + j0) (by omega)).trans hd1
                        refine pw_getN (j := 3) C cl_X2 fn_X3_101 (by decide) rfl c_314 rfl dX3_finish_155 ?_
                        refine pw_aload_n (i := 2) C dX3_finish_158 rfl rfl (Or.inr ⟨_, rfl⟩) ?_
                        have c_315 := (o_311 18 (by omega)).trans q1
                        refine pw_callV (As := [.int (iZ d.2.2.2), .ref (K S.length)]) (st := []) C (m_X3_evaluateNext g l (x := d.2.2.2) (oc := some (K S.length)) c_315) my_X3_evaluateNext ml_X3_41 (pw_rec.of C c_315 cl_X3.1) rfl ⟨Nat.le_of_ble_eq_true rfl, Nat.le_of_ble_eq_true rfl⟩ ⟨by (try dsimp only); omega, by (try dsimp only); omega⟩ rfl (Nat.le_of_ble_eq_true rfl) dX3_finish_159 ?_
                        rintro _ w_316 ⟨rfl, k_317, o_318⟩
                        refine pw_stk (st' := []) rfl ?_
                        refine pw_goto (tgt := 170) C dX3_finish_162 (by decide) ?_
                        refine pw_iinc (lv' := [(0, .ref (A 18)), (1, .int (iZ (i + 1))), (2, .ref (K S.length))]) C dX3_finish_170 rfl (by decide) rfl ?_
                        refine pw_goto (tgt := 2) C dX3_finish_173 (by decide) ?_
                        refine pw_sub [0, 1] rfl ?_
                        refine pw_wide (2 * (nk1 - nk)) (13 * (nk1 - nk)) (by (try dsimp only); omega) (by (try dsimp only); omega) ?_
                        rw [mRun_2] at hR
                        have c_319 := (o_318 (200 + S.length) (by omega)).trans k_313
                        have c_320 := ((o_318 (600 + S.length) (by omega)).trans (o_311 (600 + S.length) (by omega))).trans q6
                        rw [if_neg (by rw [hp]; decide), l4] at hR
                        simp only at hR
                        have hob := ok_body hT hp l4 hok1
                        have hE2 : EvS g w_316 A D cap t1 n1 ds T be fu 0 0 D1.2.2 (zipE D1.2.1 vs) ((nm, r0, vs, e0, true) :: S) k1 nk1 := ⟨K, V, 0, d.2.2.2, some (K S.length), vl, q14 _ 0 0 d.2.2.2 vl zr (some (K S.length)) r0 vs true f k_317 (by rw [c_319, l1]; rfl) c_320 (fun j j1 j2 j3 => (o_318 j (by first | assumption | omega)).trans (o_311 j (by first | assumption | omega))) q7 q9 q10 q11, (fun _ => ⟨rfl, l9, Or.inr ⟨S.length, (nm, r0, vs, e0, true), D1, by simp, rfl, by simp [frAt], rfl, l4, rfl, hob.1⟩⟩), (fun h => by cases h), (fun h => by cases h)⟩
                        exact ih (i + 1) w_316 t1 n1 0 D1.2.2 (zipE D1.2.1 vs) ((nm, r0, vs, e0, true) :: S) k1 nk1 (by omega) (by omega) hE2 (Or.inl ⟨rfl, hob.2.1, hob.2.2, hok2⟩) hext (by (try simp only [wS, wF_en] at hcp ⊢); omega) (by omega) (fun k hk => ((o_318 k (by omega)).trans (o_311 k (by omega))).trans (hf1 k hk)) hR h9
                    · have hp := h_308
                      refine pw_aload_n (i := 0) C dX3_finish_101 rfl rfl (Or.inr ⟨_, rfl⟩) ?_
                      refine pw_aload_n (i := 0) C dX3_finish_102 rfl rfl (Or.inr ⟨_, rfl⟩) ?_
                      refine pw_get (j := 0) C cl_X3 fl_X3_21 (by decide) rfl q1 rfl dX3_finish_103 ?_
                      refine pw_aload_n (i := 2) C dX3_finish_106 rfl rfl (Or.inr ⟨_, rfl⟩) ?_
                      refine pw_getN (j := 4) C cl_X0 fn_X3_76 (by decide) rfl q5 rfl dX3_finish_107 ?_
                      refine pw_callV (As := [.int (iZ zr)]) (st := [.ref (A 18)]) C (vr_head hS q9) my_X6_head ml_X3_85 (hS.rec C) rfl ⟨Nat.le_of_ble_eq_true rfl, Nat.le_of_ble_eq_true rfl⟩ ⟨by (try dsimp only); omega, by (try dsimp only); omega⟩ rfl (Nat.le_of_ble_eq_true rfl) dX3_finish_110 ?_
                      rintro _ _ ⟨rfl, z_321, rfl, z_321v⟩
                      have z_321r := Vl.rng hS z_321v
                      refine pw_stk (st' := [.int (iZ z_321), .ref (A 18)]) rfl ?_
                      refine pw_aload_n (i := 2) C dX3_finish_113 rfl rfl (Or.inr ⟨_, rfl⟩) ?_
                      refine pw_getN (j := 5) C cl_X0 fn_X3_89 (by decide) rfl q5 rfl dX3_finish_114 ?_
                      refine pw_callV (As := [.int (iZ z_321), va_rf os]) (st := []) C (m_X3_evaluateNext g l (x := z_321) (oc := os) q1) my_X3_evaluateNext ml_X3_41 (pw_rec.of C q1 cl_X3.1) rfl ⟨Nat.le_of_ble_eq_true rfl, Nat.le_of_ble_eq_true rfl⟩ ⟨by (try dsimp only); omega, by (try dsimp only); omega⟩ rfl (Nat.le_of_ble_eq_true rfl) dX3_finish_117 ?_
                      rintro _ w_322 ⟨rfl, k_323, o_324⟩
                      refine pw_stk (st' := []) rfl ?_
                      refine pw_aload_n (i := 2) C dX3_finish_120 rfl rfl (Or.inr ⟨_, rfl⟩) ?_
                      have S_325 := hS.same (w' := w_322) (fun k h1 h2 => (o_324 k (by omega)))
                      refine pw_aload_n (i := 0) C dX3_finish_121 rfl rfl (Or.inr ⟨_, rfl⟩) ?_
                      refine pw_get (j := 0) C cl_X3 fl_X3_21 (by decide) rfl k_323 rfl dX3_finish_122 ?_
                      refine pw_aload_n (i := 2) C dX3_finish_125 rfl rfl (Or.inr ⟨_, rfl⟩) ?_
                      have c_326 := (o_324 (200 + S.length) (by omega)).trans q5
                      refine pw_getN (j := 4) C cl_X0 fn_X3_76 (by decide) rfl c_326 rfl dX3_finish_126 ?_
                      refine pw_callV (As := [.int (iZ zr)]) (st := [.ref (K S.length)]) C (vr_tail S_325 q9) my_X6_tail ml_X3_90 (S_325.rec C) rfl ⟨Nat.le_of_ble_eq_true rfl, Nat.le_of_ble_eq_true rfl⟩ ⟨by (try dsimp only); omega, by (try dsimp only); omega⟩ rfl (Nat.le_of_ble_eq_true rfl) dX3_finish_129 ?_
                      rintro _ _ ⟨rfl, z_327, rfl, z_327v⟩
                      have z_327r := Vl.rng S_325 z_327v
                      refine pw_stk (st' := [.int (iZ z_327), .ref (K S.length)]) rfl ?_
                      refine pw_putN (j := 4) C cl_X0 fn_X3_76 (by decide) rfl rfl rfl rfl rfl c_326 (Nat.le_of_ble_eq_true rfl) dX3_finish_132 (fun w_330 k_328 o_329 => ?_)
                      have k_331 : w_330 (200 + S.length) = ((K S.length), some (OB 0 [.ref (V S.length), .int (iZ ((vs.length : Nat) : Int)), .int (iZ zn), va_rf ((fIx ds zn 0).map D), .int (iZ z_327), va_rf os, .int (iZ (b2i false))])) := k_328
                      refine pw_goto (tgt := 170) C dX3_finish_135 (by decide) ?_
                      refine pw_iinc (lv' := [(0, .ref (A 18)), (1, .int (iZ (i + 1))), (2, .ref (K S.length))]) C dX3_finish_170 rfl (by decide) rfl ?_
                      refine pw_goto (tgt := 2) C dX3_finish_173 (by decide) ?_
                      refine pw_sub [0, 1] rfl ?_
                      refine pw_wide (2 * (nk1 - nk)) (13 * (nk1 - nk)) (by (try dsimp only); omega) (by (try dsimp only); omega) ?_
                      rw [mRun_2] at hR
                      have c_332 := (o_329 18 (by omega)).trans k_323
                      have c_333 := ((o_329 (600 + S.length) (by omega)).trans (o_324 (600 + S.length) (by omega))).trans q6
                      rw [if_pos hp] at hR
                      have hoa := ok_arg hp hok1
                      have hE2 : EvS g w_330 A D cap t1 n1 ds T be fu 0 0 (obCar r0) e0 ((nm, obCdr r0, vs, e0, false) :: S) k1 nk1 := ⟨K, V, 0, z_321, os, vl, q14 _ 0 0 z_321 vl z_327 os (obCdr r0) vs false f c_332 k_331 c_333 (fun j j1 j2 j3 => (o_329 j (by first | assumption | omega)).trans (o_324 j (by first | assumption | omega))) q7 z_327v q10 q11, (fun _ => ⟨rfl, z_321v, q12.push _⟩), (fun h => by cases h), (fun h => by cases h)⟩
                      exact ih (i + 1) w_330 t1 n1 0 (obCar r0) e0 ((nm, obCdr r0, vs, e0, false) :: S) k1 nk1 (by omega) (by omega) hE2 (Or.inl ⟨rfl, hoa.1, hoa.2, hok2⟩) hext (by have hws : wF T (nm, obCdr r0, vs, e0, false) = wF T (nm, r0, vs, e0, false) := rfl; simp only [wS] at hcp ⊢; omega) (by omega) (fun k hk => ((o_329 k (by omega)).trans (o_324 k (by omega))).trans (hf1 k hk)) hR h9
                  · exfalso; omega
                · exfalso; omega
  refine pw_iconst C dX3_finish_0 ?_
  refine pw_istore_n (i := 1) (lv' := [(0, .ref (A 18)), (1, .int (iZ 0))]) C dX3_finish_1 rfl (by decide) rfl ?_
  refine pw_wide (2 * (nk - nk)) (13 * (nk - nk)) (by omega) (by omega) ?_
  exact loop mm 0 w t n md x e1 S k nk (by omega) (by omega) hE hok Ext.rf (by omega) (Nat.le_refl _) (fun _ _ => rfl) hR h9

