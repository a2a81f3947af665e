theorem cellEV {B : Nat → Nat} {x : Nat → Int} {n s k : Int} (h7 : x 7 = n) (h10 : x 10 = s) (h40 : x 40 = k) : mdE B (va_up (va_up (va_up (va_up x 61 0) 63 0) 64 100) 65 0) = mdE B (evX x n s k 0 0 100 0 (x 66) (x 67)) := by
  rw [← h7, ← h10, ← h40]
  rfl
/-- a term has been evaluated -/
def rEv (g : pw_P) (w w' : pw_W) (b : Nat) (B : Nat → Nat) (x : Nat → Int) (t : Int → Ob) (n : Int) (sN fu : Nat) (NB : Int) (R : Nat × Ob × Nat × Nat) (r : Option Value) : Prop :=
  ∃ (z : Int) (t' : Int → Ob) (n' : Int) (s' : Nat) (fZ' g1 g2 g3 g4 g5 g6 fv : Int → Int) (ev vs li wy dn vl : Int), r = some (.int (iZ z)) ∧ w' 1000 = (b, some (mdE B (evX x n' ((s' : Nat) : Int) ((R.2.2.1 : Nat) : Int) ev vs li wy dn vl))) ∧ RS g w' B t' n' s' fZ' ∧ Ext t n t' n' ∧ n' ≤ NB ∧ s' ≤ sN ∧ EvA g w' B g1 g2 g3 g4 g5 g6 fv ∧ ((R.1 = 0 ∧ Vl t' n' z R.2.1 ∧ wy = 0) ∨ (R.1 ≠ 0 ∧ z = -1 ∧ wy = ((R.1 : Nat) : Int))) ∧ R.2.2.1 ≤ fu ∧ n' + ((fu : Int) - (R.2.2.1 : Nat)) ≤ NB ∧ goF w w'
set_option maxRecDepth 100000 in
set_option maxHeartbeats 4000000 in
/-- evaluated -/
theorem m_X10_evaluated (g : pw_P) (l : Launch) {w : pw_W} {b : Nat} {B : Nat → Nat} {x : Nat → Int} (h0 : w 1000 = (b, some (mdE B x))) {t : Int → Ob} {n : Int} {sN : Nat} {fZ : Int → Int} (hR : RS g w B t n sN fZ) (h7 : x 7 = n) (h10 : x 10 = ((sN : Nat) : Int)) (hK : RK t n) {T : List Dn} (hD : MdD g w B t n T) (h32 : x 32 = ((T.length : Nat) : Int)) {o : Int} {X : Ob} (ho : Vl t n o X) {be : Bds} {fu k : Nat} {g1 g2 g3 g4 g5 g6 fv : Int → Int} (hBd : BdM g w B t n be) (hA : EvA g w B g1 g2 g3 g4 g5 g6 fv) (h39 : x 39 = ((fu : Nat) : Int)) (h37 : x 37 = -1) (h40 : x 40 = ((k : Nat) : Int)) (hfu : fu ≤ 1000) (hkf : k ≤ fu) (hTo : TOk T) (hTn : TNs T) (hNB4 : (n + ((fu : Int) - ((k : Nat) : Int))) ≤ 40000) (hwf : (wf2 T (eHas be) X).1 = true) {m0 nk : Nat} {R : Nat × Ob × Nat × Nat} (hrun : mRun T fu (m0 + 1) 0 X be [] k nk = R) (h9 : R.1 ≠ 9) : pw_M g l yX10_evaluated cX10_evaluated 3 (some .int) { frames := 5, cells := 0, slots := 0, locals := 111 } [.ref b, .int (iZ o), .int (iZ 0)] w (fun r w' => rEv g w w' b B x t n sN fu (n + ((fu : Int) - ((k : Nat) : Int))) R r) := by
  refine pw_M.of (by decide) (Nat.le_of_ble_eq_true rfl) rfl ?_
  intro p e s m args below meth c C hr hn
  have hRn := hR.n
  have hor := Vl.rg hR ho
  have loop : ∀ (mu : Nat) (w1 : pw_W), EvT g w1 b B x T be fu (n + ((fu : Int) - ((k : Nat) : Int))) sN t n mu R → goF w w1 → pw_G g p l e { frames := 5, cells := 0, slots := 0, locals := 111 } s m args below meth c 3 (pw_Q g below (fun r w' => rEv g w w' b B x t n sN fu (n + ((fu : Int) - ((k : Nat) : Int))) R r) args s { frames := 5, cells := 0, slots := 0, locals := 111 }) 0 0 29 [(0, .ref b), (1, .int (iZ o)), (2, .int (iZ 0))] [] w1 := by
    intro mu
    induction mu with
    | zero =>
      intro w1 hT1 hf1
      obtain ⟨aw, S, k1, wy, dn, vl, li1, t1, n1, s1, Z1, p1, p2, p3, p4, p5, p6, pv, hM1, hx1, hcase⟩ := hT1
      obtain ⟨a1, hR1, hK1, hD1, hBd1, hA1, hFr1, hSk1, hNB1, hs01⟩ := id hM1
      rcases hcase with ⟨rfl, rfl, rfl, hok, y0, m1, nk1, hmu, hy0, hRR⟩ | ⟨rfl, rfl, rfl, f, S', m1, nk1, rfl, hen, hok0, hok, hmu, hRR⟩ | ⟨fa, y0, nk1, rfl, hfa, hRR⟩
      · obtain rfl : m1 = 0 := by omega
        exact (mRn_9 hRR h9).elim
      · exfalso; omega
      · refine pw_aload_n (i := 0) C dX10_evaluated_29 rfl rfl (Or.inr ⟨_, rfl⟩) ?_
        refine pw_get (j := 65) C cl_X10 fl_X10_374 (by decide) rfl a1 rfl dX10_evaluated_30 ?_
        refine pw_stk (st' := [.int (iZ ((fa : Nat) : Int))]) rfl ?_
        refine pw_if_ne (tgt := 73) C (by omega) dX10_evaluated_33 (by decide) (fun h_311 => ?_) (fun h_311 => ?_)
        · refine pw_aload_n (i := 0) C dX10_evaluated_73 rfl rfl (Or.inr ⟨_, rfl⟩) ?_
          refine pw_get (j := 65) C cl_X10 fl_X10_374 (by decide) rfl a1 rfl dX10_evaluated_74 ?_
          refine pw_stk (st' := [.int (iZ ((fa : Nat) : Int))]) rfl ?_
          refine pw_if_ne (tgt := 87) C (by omega) dX10_evaluated_77 (by decide) (fun h_312 => ?_) (fun h_312 => ?_)
          · refine pw_iconst C dX10_evaluated_87 ?_
            rw [hRR] at h9 ⊢
            exact pw_iret C hr dX10_evaluated_88 ⟨-1, t1, n1, s1, Z1, p1, p2, p3, p4, p5, p6, pv, _, _, _, _, _, _, rfl, a1, hR1, hx1, by have := hNB1; omega, hs01, hA1, Or.inr ⟨by show fa ≠ 0; omega, rfl, rfl⟩, hSk1.2, (by have := hNB1; show n1 + ((fu : Int) - (k1 : Nat)) ≤ _; omega), hf1⟩
          · exfalso; omega
        · exfalso; omega
    | succ mu ih =>
      intro w1 hT1 hf1
      obtain ⟨aw, S, k1, wy, dn, vl, li1, t1, n1, s1, Z1, p1, p2, p3, p4, p5, p6, pv, hM1, hx1, hcase⟩ := hT1
      obtain ⟨a1, hR1, hK1, hD1, hBd1, hA1, hFr1, hSk1, hNB1, hs01⟩ := id hM1
      rcases hcase with ⟨rfl, rfl, rfl, hok, y0, m1, nk1, hmu, hy0, hRR⟩ | ⟨rfl, rfl, rfl, f, S', m1, nk1, rfl, hen, hok0, hok, hmu, hRR⟩ | ⟨fa, y0, nk1, rfl, hfa, hRR⟩
      · cases S with
        | nil =>
          have hy0r := Vl.rg hR1 hy0
          cases m1 with
          | zero => exact (mRn_9 hRR h9).elim
          | succ m1 =>
            rw [mRun_1n] at hRR
            have hRR := hRR.symm
            refine pw_aload_n (i := 0) C dX10_evaluated_29 rfl rfl (Or.inr ⟨_, rfl⟩) ?_
            refine pw_get (j := 65) C cl_X10 fl_X10_374 (by decide) rfl a1 rfl dX10_evaluated_30 ?_
            refine pw_stk (st' := [.int (iZ 0)]) rfl ?_
            refine pw_if_ne (tgt := 73) C (by omega) dX10_evaluated_33 (by decide) (fun h_401 => ?_) (fun h_401 => ?_)
            · exfalso; omega
            · refine pw_aload_n (i := 0) C dX10_evaluated_36 rfl rfl (Or.inr ⟨_, rfl⟩) ?_
              refine pw_get (j := 66) C cl_X10 fl_X10_359 (by decide) rfl a1 rfl dX10_evaluated_37 ?_
              refine pw_stk (st' := [.int (iZ 1)]) rfl ?_
              refine pw_if_eq (tgt := 50) C (by omega) dX10_evaluated_40 (by decide) (fun h_402 => ?_) (fun h_402 => ?_)
              · exfalso; omega
              · refine pw_aload_n (i := 0) C dX10_evaluated_43 rfl rfl (Or.inr ⟨_, rfl⟩) ?_
                refine pw_get (j := 61) C cl_X10 fl_X10_371 (by decide) rfl a1 rfl dX10_evaluated_44 ?_
                refine pw_stk (st' := [.int (iZ 0)]) rfl ?_
                refine pw_if_eq (tgt := 73) C (by omega) dX10_evaluated_47 (by decide) (fun h_403 => ?_) (fun h_403 => ?_)
                · refine pw_aload_n (i := 0) C dX10_evaluated_73 rfl rfl (Or.inr ⟨_, rfl⟩) ?_
                  refine pw_get (j := 65) C cl_X10 fl_X10_374 (by decide) rfl a1 rfl dX10_evaluated_74 ?_
                  refine pw_stk (st' := [.int (iZ 0)]) rfl ?_
                  refine pw_if_ne (tgt := 87) C (by omega) dX10_evaluated_77 (by decide) (fun h_404 => ?_) (fun h_404 => ?_)
                  · exfalso; omega
                  · refine pw_aload_n (i := 0) C dX10_evaluated_80 rfl rfl (Or.inr ⟨_, rfl⟩) ?_
                    refine pw_get (j := 67) C cl_X10 fl_X10_368 (by decide) rfl a1 rfl dX10_evaluated_81 ?_
                    refine pw_stk (st' := [.int (iZ vl)]) rfl ?_
                    refine pw_goto (tgt := 88) C dX10_evaluated_84 (by decide) ?_
                    rw [hRR] at h9 ⊢
                    exact pw_iret C hr dX10_evaluated_88 ⟨vl, t1, n1, s1, Z1, p1, p2, p3, p4, p5, p6, pv, _, _, _, _, _, _, rfl, a1, hR1, hx1, by have := hNB1; omega, hs01, hA1, Or.inl ⟨rfl, hy0, rfl⟩, hSk1.2, (by have := hNB1; show n1 + ((fu : Int) - (k1 : Nat)) ≤ _; omega), hf1⟩
                · exfalso; omega
        | cons f S' =>
          obtain ⟨nm, r, vs, e1, en⟩ := f
          have hll : ((nm, r, vs, e1, en) :: S').length = S'.length + 1 := rfl
          refine pw_aload_n (i := 0) C dX10_evaluated_29 rfl rfl (Or.inr ⟨_, rfl⟩) ?_
          refine pw_get (j := 65) C cl_X10 fl_X10_374 (by decide) rfl a1 rfl dX10_evaluated_30 ?_
          refine pw_stk (st' := [.int (iZ 0)]) rfl ?_
          refine pw_if_ne (tgt := 73) C (by omega) dX10_evaluated_33 (by decide) (fun h_501 => ?_) (fun h_501 => ?_)
          · exfalso; omega
          · refine pw_aload_n (i := 0) C dX10_evaluated_36 rfl rfl (Or.inr ⟨_, rfl⟩) ?_
            refine pw_get (j := 66) C cl_X10 fl_X10_359 (by decide) rfl a1 rfl dX10_evaluated_37 ?_
            refine pw_stk (st' := [.int (iZ 1)]) rfl ?_
            refine pw_if_eq (tgt := 50) C (by omega) dX10_evaluated_40 (by decide) (fun h_502 => ?_) (fun h_502 => ?_)
            · exfalso; omega
            · refine pw_aload_n (i := 0) C dX10_evaluated_43 rfl rfl (Or.inr ⟨_, rfl⟩) ?_
              refine pw_get (j := 61) C cl_X10 fl_X10_371 (by decide) rfl a1 rfl dX10_evaluated_44 ?_
              refine pw_stk (st' := [.int (iZ ((((nm, r, vs, e1, en) :: S').length : Nat) : Int))]) rfl ?_
              refine pw_if_eq (tgt := 73) C (by omega) dX10_evaluated_47 (by decide) (fun h_503 => ?_) (fun h_503 => ?_)
              · exfalso; omega
              · refine pw_aload_n (i := 0) C dX10_evaluated_50 rfl rfl (Or.inr ⟨_, rfl⟩) ?_
                refine pw_get (j := 66) C cl_X10 fl_X10_359 (by decide) rfl a1 rfl dX10_evaluated_51 ?_
                refine pw_stk (st' := [.int (iZ 1)]) rfl ?_
                refine pw_if_eq (tgt := 65) C (by omega) dX10_evaluated_54 (by decide) (fun h_504 => ?_) (fun h_504 => ?_)
                · exfalso; omega
                · refine pw_aload_n (i := 0) C dX10_evaluated_57 rfl rfl (Or.inr ⟨_, rfl⟩) ?_
                  refine pw_iload_n (i := 2) C dX10_evaluated_58 rfl rfl ?_
                  refine pw_callV (As := [.int (iZ 0)]) (st := []) C (m_X10_takeValue g l h39 h32 h37 hfu hTo hTn hNB4 hM1 hy0 hok) my_X10_takeValue ml_X10_404 (pw_rec.of C a1 cl_X10.1) rfl ⟨Nat.le_of_ble_eq_true rfl, Nat.le_of_ble_eq_true rfl⟩ ⟨by (try dsimp only); omega, by (try dsimp only); omega⟩ rfl (Nat.le_of_ble_eq_true rfl) dX10_evaluated_59 ?_
                  rintro _ w9 ⟨rfl, hT9, ho9⟩
                  refine pw_stk (st' := []) rfl ?_
                  refine pw_goto (tgt := 29) C dX10_evaluated_62 (by decide) ?_
                  exact ih w9 (((hT9 m1 nk1 R hRR h9).base hx1).mono (by omega)) (fun k hk => (ho9 k (by omega)).trans (hf1 k hk))
      · obtain ⟨nm, r, vs, e1, en⟩ := f
        simp only at hen
        subst hen
        refine pw_aload_n (i := 0) C dX10_evaluated_29 rfl rfl (Or.inr ⟨_, rfl⟩) ?_
        refine pw_get (j := 65) C cl_X10 fl_X10_374 (by decide) rfl a1 rfl dX10_evaluated_30 ?_
        refine pw_stk (st' := [.int (iZ 0)]) rfl ?_
        refine pw_if_ne (tgt := 73) C (by omega) dX10_evaluated_33 (by decide) (fun h_601 => ?_) (fun h_601 => ?_)
        · exfalso; omega
        · refine pw_aload_n (i := 0) C dX10_evaluated_36 rfl rfl (Or.inr ⟨_, rfl⟩) ?_
          refine pw_get (j := 66) C cl_X10 fl_X10_359 (by decide) rfl a1 rfl dX10_evaluated_37 ?_
          refine pw_stk (st' := [.int (iZ 0)]) rfl ?_
          refine pw_if_eq (tgt := 50) C (by omega) dX10_evaluated_40 (by decide) (fun h_602 => ?_) (fun h_602 => ?_)
          · refine pw_aload_n (i := 0) C dX10_evaluated_50 rfl rfl (Or.inr ⟨_, rfl⟩) ?_
            refine pw_get (j := 66) C cl_X10 fl_X10_359 (by decide) rfl a1 rfl dX10_evaluated_51 ?_
            refine pw_stk (st' := [.int (iZ 0)]) rfl ?_
            refine pw_if_eq (tgt := 65) C (by omega) dX10_evaluated_54 (by decide) (fun h_603 => ?_) (fun h_603 => ?_)
            · refine pw_aload_n (i := 0) C dX10_evaluated_65 rfl rfl (Or.inr ⟨_, rfl⟩) ?_
              refine pw_iload_n (i := 2) C dX10_evaluated_66 rfl rfl ?_
              refine pw_callV (As := [.int (iZ 0)]) (st := []) C (m_X10_goOn g l h39 h32 h37 hfu hTo hTn hNB4 hM1 hok0 hok) my_X10_goOn ml_X10_408 (pw_rec.of C a1 cl_X10.1) rfl ⟨Nat.le_of_ble_eq_true rfl, Nat.le_of_ble_eq_true rfl⟩ ⟨by (try dsimp only); omega, by (try dsimp only); omega⟩ rfl (Nat.le_of_ble_eq_true rfl) dX10_evaluated_67 ?_
              rintro _ w9 ⟨rfl, hT9, ho9⟩
              refine pw_stk (st' := []) rfl ?_
              refine pw_goto (tgt := 29) C dX10_evaluated_70 (by decide) ?_
              exact ih w9 (((hT9 m1 nk1 R hRR h9).base hx1).mono (by omega)) (fun k hk => (ho9 k (by omega)).trans (hf1 k hk))
            · exfalso; omega
          · exfalso; omega
      · refine pw_aload_n (i := 0) C dX10_evaluated_29 rfl rfl (Or.inr ⟨_, rfl⟩) ?_
        refine pw_get (j := 65) C cl_X10 fl_X10_374 (by decide) rfl a1 rfl dX10_evaluated_30 ?_
        refine pw_stk (st' := [.int (iZ ((fa : Nat) : Int))]) rfl ?_
        refine pw_if_ne (tgt := 73) C (by omega) dX10_evaluated_33 (by decide) (fun h_701 => ?_) (fun h_701 => ?_)
        · refine pw_aload_n (i := 0) C dX10_evaluated_73 rfl rfl (Or.inr ⟨_, rfl⟩) ?_
          refine pw_get (j := 65) C cl_X10 fl_X10_374 (by decide) rfl a1 rfl dX10_evaluated_74 ?_
          refine pw_stk (st' := [.int (iZ ((fa : Nat) : Int))]) rfl ?_
          refine pw_if_ne (tgt := 87) C (by omega) dX10_evaluated_77 (by decide) (fun h_702 => ?_) (fun h_702 => ?_)
          · refine pw_iconst C dX10_evaluated_87 ?_
            rw [hRR] at h9 ⊢
            exact pw_iret C hr dX10_evaluated_88 ⟨-1, t1, n1, s1, Z1, p1, p2, p3, p4, p5, p6, pv, _, _, _, _, _, _, rfl, a1, hR1, hx1, by have := hNB1; omega, hs01, hA1, Or.inr ⟨by show fa ≠ 0; omega, rfl, rfl⟩, hSk1.2, (by have := hNB1; show n1 + ((fu : Int) - (k1 : Nat)) ≤ _; omega), hf1⟩
          · exfalso; omega
        · exfalso; omega
  refine pw_aload_n (i := 0) C dX10_evaluated_0 rfl rfl (Or.inr ⟨_, rfl⟩) ?_
  refine pw_iconst C dX10_evaluated_1 ?_
  refine pw_put (j := 61) C cl_X10 fl_X10_371 (by decide) rfl rfl rfl rfl rfl h0 (Nat.le_of_ble_eq_true rfl) dX10_evaluated_2 (fun w_903 k_901 o_902 => ?_)
  have k_904 : w_903 1000 = (b, some (mdE B (va_up x 61 0))) := k_901
  refine pw_aload_n (i := 0) C dX10_evaluated_5 rfl rfl (Or.inr ⟨_, rfl⟩) ?_
  refine pw_iconst C dX10_evaluated_6 ?_
  refine pw_put (j := 63) C cl_X10 fl_X10_383 (by decide) rfl rfl rfl rfl rfl k_904 (Nat.le_of_ble_eq_true rfl) dX10_evaluated_7 (fun w_907 k_905 o_906 => ?_)
  have k_908 : w_907 1000 = (b, some (mdE B (va_up (va_up x 61 0) 63 0))) := k_905
  refine pw_aload_n (i := 0) C dX10_evaluated_10 rfl rfl (Or.inr ⟨_, rfl⟩) ?_
  refine pw_bipush C dX10_evaluated_11 (by decide) ?_
  refine pw_put (j := 64) C cl_X10 fl_X10_377 (by decide) rfl rfl rfl rfl rfl k_908 (Nat.le_of_ble_eq_true rfl) dX10_evaluated_13 (fun w_911 k_909 o_910 => ?_)
  have k_912 : w_911 1000 = (b, some (mdE B (va_up (va_up (va_up x 61 0) 63 0) 64 100))) := k_909
  refine pw_aload_n (i := 0) C dX10_evaluated_16 rfl rfl (Or.inr ⟨_, rfl⟩) ?_
  refine pw_iconst C dX10_evaluated_17 ?_
  refine pw_put (j := 65) C cl_X10 fl_X10_374 (by decide) rfl rfl rfl rfl rfl k_912 (Nat.le_of_ble_eq_true rfl) dX10_evaluated_18 (fun w_915 k_913 o_914 => ?_)
  have k_916 : w_915 1000 = (b, some (mdE B (va_up (va_up (va_up (va_up x 61 0) 63 0) 64 100) 65 0))) := k_913
  refine pw_aload_n (i := 0) C dX10_evaluated_21 rfl rfl (Or.inr ⟨_, rfl⟩) ?_
  refine pw_iload_n (i := 1) C dX10_evaluated_22 rfl rfl ?_
  refine pw_iconst C dX10_evaluated_23 ?_
  refine pw_iconst C dX10_evaluated_24 ?_
  refine pw_iload_n (i := 2) C dX10_evaluated_25 rfl rfl ?_
  have R_917 := hR.same (w' := w_915) (fun k hk => (o_914 k (by omega)).trans ((o_910 k (by omega)).trans ((o_906 k (by omega)).trans (o_902 k (by omega)))))
  have hMe : EvM g w_915 b B x T be fu (n + ((fu : Int) - ((k : Nat) : Int))) sN 1 [] k 0 (x 66) (x 67) 100 t n sN fZ g1 g2 g3 g4 g5 g6 fv := ⟨by rw [k_916]; exact congrArg (fun q => (b, some q)) (cellEV h7 h10 h40), R_917, hK, hD.same (fun k hk => (o_914 k (by omega)).trans ((o_910 k (by omega)).trans ((o_906 k (by omega)).trans (o_902 k (by omega))))) Ext.rf, hBd.same (fun k hk => (o_914 k (by omega)).trans ((o_910 k (by omega)).trans ((o_906 k (by omega)).trans (o_902 k (by omega))))) Ext.rf, hA.same (fun k hk => (o_914 k (by omega)).trans ((o_910 k (by omega)).trans ((o_906 k (by omega)).trans (o_902 k (by omega))))), trivial, ⟨by simp, hkf⟩, by simp [neS], Nat.le_refl _⟩
  refine pw_callV (As := [.int (iZ o), .int (iZ (-1)), .int (iZ 0), .int (iZ 0)]) (st := []) C (m_X10_beginEval g l h39 h32 h37 hfu hTo hTn hNB4 hMe ho (d0 := -1) (ba := 0) (Or.inl ⟨rfl, rfl⟩) ⟨by decide, by decide⟩ hwf trivial) my_X10_beginEval ml_X10_397 (pw_rec.of C k_916 cl_X10.1) rfl ⟨Nat.le_of_ble_eq_true rfl, Nat.le_of_ble_eq_true rfl⟩ ⟨by (try dsimp only); omega, by (try dsimp only); omega⟩ rfl (Nat.le_of_ble_eq_true rfl) dX10_evaluated_26 ?_
  rintro _ w9 ⟨rfl, hT9, ho9⟩
  refine pw_stk (st' := []) rfl ?_
  exact loop (2 * m0 + 1) w9 (hT9 m0 nk R hrun) (fun k hk => (ho9 k (by omega)).trans ((o_914 k (by omega)).trans ((o_910 k (by omega)).trans ((o_906 k (by omega)).trans (o_902 k (by omega))))))

