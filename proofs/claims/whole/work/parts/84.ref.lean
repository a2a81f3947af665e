theorem wk_step {T : List Dn} {vs : Ob → Bool} {Y : Ob} (h : (wf2 T vs Y).1 = true) : wfA T vs (chO Y) = true ∧ szA (chO Y) + 1 ≤ (sz2 Y).1 ∧ (isCl Y = true → 0 ≤ obLen (obCdr Y) ∧ obP Y = true) ∧ (lsO (obCdr Y)).length ≤ (sz2 Y).1 := by
  cases hc : isCl Y with
  | true =>
    obtain ⟨h1, h2, h3, h4⟩ := isCl_wf h hc
    have e : (sz2 Y).1 = 1 + szA (lsO (obCdr Y)) := by
      cases Y with
      | add a c => simp only [sz2]; rw [if_neg (by rw [h2]; decide)]; show 1 + (sz2 c).2 = _; rw [sz2_ls]; rfl
      | _ => cases h1
    have hch : chO Y = lsO (obCdr Y) := by unfold chO; rw [if_pos hc]
    have := szA_len (lsO (obCdr Y))
    rw [hch]
    exact ⟨h4, by omega, fun _ => ⟨h3, h1⟩, by omega⟩
  | false =>
    have hch : chO Y = [] := by unfold chO; rw [if_neg (by rw [hc]; decide)]
    have := sz2_1 Y
    rw [hch]
    refine ⟨rfl, by simp only [szA]; omega, (fun q => by cases q), ?_⟩
    cases hp : obP Y with
    | false => rw [(obLen_car hp).2]; simp [lsO_np obP_nil]
    | true =>
      have hq : obQ Y = true := by
        cases Y with
        | add a c =>
          simp only [wf2, Bool.or_eq_true, Bool.and_eq_true, decide_eq_true_eq] at h
          rcases h with h | h
          · exact h
          · exfalso
            unfold isCl at hc
            have ha : a = oQuote := by
              by_cases e : a = oQuote
              · exact e
              · rw [decide_eq_true (p := obCar (.add a c) ≠ oQuote) e] at hc; cases hc
            have h1 := h.1.1
            rw [ha] at h1
            unfold arT at h1
            rw [show kIx oQuote = 2 from kIx_k 2 (by decide), if_pos (by decide)] at h1
            exact absurd h1 (by decide)
        | _ => cases hp
      rw [obQ_eq hq]
      show (lsO (.add _ oNil)).length ≤ _
      simp only [lsO]
      rw [lsO_np obP_nil]
      exact sz2_1 _
set_option maxRecDepth 100000 in
set_option maxHeartbeats 4000000 in
/-- hasCall -/
theorem m_X10_hasCall (g : pw_P) (l : Launch) {w : pw_W} {b : Nat} {B : Nat → Nat} {x : Nat → Int} (h0 : w 1000 = (b, some (mdE B x))) {t : Int → Ob} {n : Int} {sN : Nat} {fZ : Int → Int} (hR : RS g w B t n sN fZ) (h7 : x 7 = n) (h10 : x 10 = ((sN : Nat) : Int)) (hK : RK t n) {o : Int} {X : Ob} (ho : Vl t n o X) {f0 : Int} {N : Ob} {T1 : List Dn} {vs : Ob → Bool} {fw : Int → Int} (hf : Vl t n f0 N) (hNq : N ≠ oQuote) (f1 : w 1049 = (B 48, some (AI g 400 fw))) (f2 : ∀ j, inI (fw j)) (hwf : (wf2 T1 vs X).1 = true) (hsz : (sz2 X).1 ≤ 120) : pw_M g l yX10_hasCall cX10_hasCall 4 (some .boolean) { frames := 3, cells := 0, slots := 0, locals := 67 } [.ref b, .int (iZ o), .int (iZ f0)] w (fun r w' => r = some (.int (iZ (b2i (cl2 N X).1))) ∧ (∃ v' fw', w' 1000 = (b, some (mdE B (va_up x 49 v'))) ∧ w' 1049 = (B 48, some (AI g 400 fw')) ∧ ∀ j, inI (fw' j)) ∧ ∀ k, (k ≠ 1000 ∧ k ≠ 1049) → w' k = w k) := by
  refine pw_M.of (by decide) (Nat.le_of_ble_eq_true rfl) rfl ?_
  intro p e s m args below meth c C hr hn
  have hRn := hR.n
  have hor := Vl.rg hR ho
  have hfr := Vl.rg hR hf
  have loop : ∀ (kk : Nat) (w1 : pw_W) (fw1 : Int → Int) (S : List Ob), szA S ≤ kk → w1 1000 = (b, some (mdE B (va_up x 49 ((S.length : Nat) : Int)))) → w1 1049 = (B 48, some (AI g 400 fw1)) → (∀ j, inI (fw1 j)) → WkI t n fw1 S → wfA T1 vs S = true → szA S ≤ 120 → S.any (fun Y => (cl2 N Y).1) = (cl2 N X).1 → (∀ k, (k ≠ 1000 ∧ k ≠ 1049) → w1 k = w k) → pw_G g p l e { frames := 3, cells := 0, slots := 0, locals := 67 } s m args below meth c 4 (pw_Q g below (fun r w' => r = some (.int (iZ (b2i (cl2 N X).1))) ∧ (∃ v' fw', w' 1000 = (b, some (mdE B (va_up x 49 v'))) ∧ w' 1049 = (B 48, some (AI g 400 fw')) ∧ ∀ j, inI (fw' j)) ∧ ∀ k, (k ≠ 1000 ∧ k ≠ 1049) → w' k = w k) args s { frames := 3, cells := 0, slots := 0, locals := 67 }) 0 0 10 [(0, .ref b), (1, .int (iZ o)), (2, .int (iZ f0))] [] w1 := by
    intro kk
    induction kk with
    | zero =>
      intro w1 fw1 S hkk y0 y49 g49 hW hwS hsS hq hf1
      cases S with
      | nil =>
        have y0 : w1 1000 = (b, some (mdE B (va_up x 49 0))) := y0
        refine pw_aload_n (i := 0) C dX10_hasCall_10 rfl rfl (Or.inr ⟨_, rfl⟩) ?_
        refine pw_get (j := 49) C cl_X10 fl_X10_340 (by decide) rfl y0 rfl dX10_hasCall_11 ?_
        refine pw_stk (st' := [.int (iZ 0)]) rfl ?_
        refine pw_if_le (tgt := 36) C (by omega) dX10_hasCall_14 (by decide) (fun h_11 => ?_) (fun h_11 => ?_)
        · refine pw_iconst C dX10_hasCall_36 ?_
          exact pw_zret C hr (by decide +kernel) dX10_hasCall_37 ⟨by rw [← hq]; rfl, ⟨_, fw1, y0, y49, g49⟩, hf1⟩
        · exfalso; omega
      | cons Y S1 => exfalso; have := sz2_1 Y; simp only [szA] at hkk; omega
    | succ kk ih =>
      intro w1 fw1 S hkk y0 y49 g49 hW hwS hsS hq hf1
      cases S with
      | nil =>
        have y0 : w1 1000 = (b, some (mdE B (va_up x 49 0))) := y0
        refine pw_aload_n (i := 0) C dX10_hasCall_10 rfl rfl (Or.inr ⟨_, rfl⟩) ?_
        refine pw_get (j := 49) C cl_X10 fl_X10_340 (by decide) rfl y0 rfl dX10_hasCall_11 ?_
        refine pw_stk (st' := [.int (iZ 0)]) rfl ?_
        refine pw_if_le (tgt := 36) C (by omega) dX10_hasCall_14 (by decide) (fun h_11 => ?_) (fun h_11 => ?_)
        · refine pw_iconst C dX10_hasCall_36 ?_
          exact pw_zret C hr (by decide +kernel) dX10_hasCall_37 ⟨by rw [← hq]; rfl, ⟨_, fw1, y0, y49, g49⟩, hf1⟩
        · exfalso; omega
      | cons Y S1 =>
        rw [wfA_cons, Bool.and_eq_true] at hwS
        obtain ⟨hwY, hwS⟩ := hwS
        have hst := wk_step hwY
        simp only [szA] at hkk hsS
        have hl1 := szA_len S1
        have hll : (Y :: S1).length = S1.length + 1 := rfl
        refine pw_aload_n (i := 0) C dX10_hasCall_10 rfl rfl (Or.inr ⟨_, rfl⟩) ?_
        refine pw_get (j := 49) C cl_X10 fl_X10_340 (by decide) rfl y0 rfl dX10_hasCall_11 ?_
        refine pw_stk (st' := [.int (iZ (((Y :: S1).length : Nat) : Int))]) rfl ?_
        refine pw_if_le (tgt := 36) C (by omega) dX10_hasCall_14 (by decide) (fun h_51 => ?_) (fun h_51 => ?_)
        · exfalso; omega
        · refine pw_aload_n (i := 0) C dX10_hasCall_17 rfl rfl (Or.inr ⟨_, rfl⟩) ?_
          have R_52 := hR.same (w' := w1) (fun k hk => (hf1 k (by omega)))
          refine pw_callV (As := []) (st := []) C (m_X10_walkOn g l y0 R_52 h7 h10 hK rfl y49 g49 hW hst.2.2.1 (by omega)) my_X10_walkOn ml_X10_346 (pw_rec.of C y0 cl_X10.1) rfl ⟨Nat.le_of_ble_eq_true rfl, Nat.le_of_ble_eq_true rfl⟩ ⟨by (try dsimp only); omega, by (try dsimp only); omega⟩ rfl (Nat.le_of_ble_eq_true rfl) dX10_hasCall_18 ?_
          rintro _ w4 ⟨z, fw4, rfl, hzv, e40, e41, g41, hW4, ho4⟩
          have hzr := Vl.rg hR hzv
          refine pw_stk (st' := [.int (iZ z)]) rfl ?_
          refine pw_istore_n (i := 3) (lv' := [(0, .ref b), (1, .int (iZ o)), (2, .int (iZ f0)), (3, .int (iZ z))]) C dX10_hasCall_21 rfl (by decide) rfl ?_
          refine pw_aload_n (i := 0) C dX10_hasCall_22 rfl rfl (Or.inr ⟨_, rfl⟩) ?_
          refine pw_iload_n (i := 3) C dX10_hasCall_23 rfl rfl ?_
          refine pw_iload_n (i := 2) C dX10_hasCall_24 rfl rfl ?_
          have R_53 := R_52.same (w' := w4) (fun k hk => (ho4 k (by omega)))
          refine pw_callV (As := [.int (iZ z), .int (iZ f0)]) (st := []) C (m_X10_isCallOf g l e40 R_53 h7 h10 hK hzv hf) my_X10_isCallOf ml_X10_349 (pw_rec.of C e40 cl_X10.1) rfl ⟨Nat.le_of_ble_eq_true rfl, Nat.le_of_ble_eq_true rfl⟩ ⟨by (try dsimp only); omega, by (try dsimp only); omega⟩ rfl (Nat.le_of_ble_eq_true rfl) dX10_hasCall_25 ?_
          rintro _ _ ⟨rfl, rfl⟩
          refine pw_stk (st' := [.int (iZ (b2i (obP Y && decide (obCar Y = N))))]) rfl ?_
          refine pw_if_eqB (tgt := 33) C dX10_hasCall_28 (by decide) (fun h_54 => ?_) (fun h_54 => ?_)
          · have hncl : clP N Y = false := by cases hcc : clP N Y with | false => rfl | true => (unfold clP isCl at hcc; simp only [Bool.and_eq_true, decide_eq_true_eq] at hcc; have := h_54; rw [hcc.1.1, decide_eq_true hcc.2] at this; cases this)
            refine pw_goto (tgt := 10) C dX10_hasCall_33 (by decide) ?_
            refine pw_sub [0, 1, 2] rfl ?_
            exact ih w4 fw4 (chO Y ++ S1) (by rw [szA_app]; omega) e40 e41 g41 hW4 (by rw [wfA_app, hst.1, hwS]; rfl) (by rw [szA_app]; omega) (by rw [← hq, List.any_cons, cl2_one hwY, hncl, Bool.false_or, List.any_append]) (fun k hk => (ho4 k (by omega)).trans (hf1 k (by omega)))
          · have hcl := h_54
            simp only [Bool.and_eq_true, decide_eq_true_eq] at hcl
            have hcl2 : isCl Y = true ∧ decide (obCar Y = N) = true := ⟨by unfold isCl; rw [hcl.1, decide_eq_true (p := obCar Y ≠ oQuote) (by rw [hcl.2]; exact hNq)]; rfl, decide_eq_true hcl.2⟩
            refine pw_iconst C dX10_hasCall_31 ?_
            exact pw_zret C hr (by decide +kernel) dX10_hasCall_32 ⟨by rw [← hq, List.any_cons, cl2_one hwY, show clP N Y = true from by unfold clP; rw [hcl2.1, hcl2.2]; rfl, Bool.true_or, Bool.true_or]; rfl, ⟨_, fw4, e40, e41, g41⟩, fun k hk => (ho4 k (by omega)).trans (hf1 k (by omega))⟩
  refine pw_aload_n (i := 0) C dX10_hasCall_0 rfl rfl (Or.inr ⟨_, rfl⟩) ?_
  refine pw_iconst C dX10_hasCall_1 ?_
  refine pw_put (j := 49) C cl_X10 fl_X10_340 (by decide) rfl rfl rfl rfl rfl h0 (Nat.le_of_ble_eq_true rfl) dX10_hasCall_2 (fun w_303 k_301 o_302 => ?_)
  have k_304 : w_303 1000 = (b, some (mdE B (va_up x 49 0))) := k_301
  refine pw_aload_n (i := 0) C dX10_hasCall_5 rfl rfl (Or.inr ⟨_, rfl⟩) ?_
  refine pw_iload_n (i := 1) C dX10_hasCall_6 rfl rfl ?_
  have c_305 := (o_302 1049 (by omega)).trans f1
  refine pw_callV (As := [.int (iZ o)]) (st := []) C (m_X10_walkTo g l k_304 (v := 0) rfl c_305 f2 (c0 := o) (by omega)) my_X10_walkTo ml_X10_343 (pw_rec.of C k_304 cl_X10.1) rfl ⟨Nat.le_of_ble_eq_true rfl, Nat.le_of_ble_eq_true rfl⟩ ⟨by (try dsimp only); omega, by (try dsimp only); omega⟩ rfl (Nat.le_of_ble_eq_true rfl) dX10_hasCall_7 ?_
  rintro _ w4 ⟨rfl, e40, e41, ho4⟩
  refine pw_stk (st' := []) rfl ?_
  exact loop 120 w4 _ [X] (by simp only [szA]; omega) (by rw [e40]; rfl) e41 (upz_inI f2 (by omega)) ⟨by show Vl t n (upz fw 0 o 0) X; rw [upz_self]; exact ho, trivial⟩ (by simp only [wfA, List.all_cons, hwf]; rfl) (by simp only [szA]; omega) (by simp) (fun k hk => (ho4 k (by omega)).trans (o_302 k (by omega)))

