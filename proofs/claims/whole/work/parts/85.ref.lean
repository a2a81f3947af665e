/-- the variables of a term, of a list of terms, are such -/
def vr2 (vs : Ob → Bool) : Ob → Bool × Bool
  | .add a b => (obQ (.add a b) || (vr2 vs b).2, (vr2 vs a).1 && (vr2 vs b).2)
  | x => (if obV x then vs x else true, true)
theorem vr2_ls (vs : Ob → Bool) (x : Ob) : (vr2 vs x).2 = (lsO x).all (fun y => (vr2 vs y).1) := by
  induction x with
  | add a b ha hb => simp only [vr2, lsO, List.all_cons, hb]
  | _ => rfl
theorem obV_np {X : Ob} (h : obP X = true) : obV X = false := by cases X <;> first | rfl | cases h
theorem vr_one {T : List Dn} {ws vs : Ob → Bool} {Y : Ob} (h : (wf2 T ws Y).1 = true) : (vr2 vs Y).1 = ((if obV Y then vs Y else true) && (chO Y).all (fun y => (vr2 vs y).1)) := by
  cases hp : obP Y with
  | false =>
    have hch : chO Y = [] := by unfold chO isCl; rw [hp]; rfl
    rw [hch]
    cases Y <;> first | (simp only [vr2, List.all_nil, Bool.and_true]; done) | cases hp
  | true =>
    rw [obV_np hp]
    cases hc : isCl Y with
    | true =>
      obtain ⟨h1, h2, h3, h4⟩ := isCl_wf h hc
      have hch : chO Y = lsO (obCdr Y) := by unfold chO; rw [if_pos hc]
      rw [hch, ← vr2_ls]
      cases Y with
      | add a c => simp only [vr2, h2]; rfl
      | _ => cases hp
    | false =>
      have hch : chO Y = [] := by unfold chO; rw [if_neg (by rw [hc]; decide)]
      rw [hch]
      cases Y with
      | add a c =>
        have hq : obQ (.add a c) = true := by
          have := h
          simp only [wf2, Bool.or_eq_true, Bool.and_eq_true, decide_eq_true_eq] at this
          rcases this with q | q
          · exact q
          · exfalso
            unfold isCl at hc
            have ha : a = oQuote := by
              by_cases e : a = oQuote
              · exact e
              · rw [decide_eq_true (p := obCar (.add a c) ≠ oQuote) e] at hc; cases hc
            have h1 := q.1.1
            rw [ha] at h1
            unfold arT at h1
            rw [show kIx oQuote = 2 from kIx_k 2 (by decide), if_pos (by decide)] at h1
            exact absurd h1 (by decide)
        simp only [vr2, hq]; rfl
      | _ => cases hp
def nIn (Y : Ob) (L : List Ob) : Bool := L.all (fun u => decide (u ≠ Y))
theorem nIn_no {Y : Ob} {L : List Ob} {vs : Ob → Bool} (h : nIn Y L = false) : (vs Y && L.all vs) = L.all vs := by
  unfold nIn at h
  have : ∃ u ∈ L, u = Y := by
    have h2 := List.all_eq_false.mp h
    obtain ⟨u, hu, h3⟩ := h2
    exact ⟨u, hu, by simpa using h3⟩
  obtain ⟨u, hu, rfl⟩ := this
  cases hv : L.all vs with
  | false => rw [Bool.and_false]
  | true => rw [List.all_eq_true.mp hv u hu]; rfl
/-- the variables that were found -/
def MIt (g : pw_P) (w : pw_W) (B : Nat → Nat) (t : Int → Ob) (n : Int) (I : List Ob) : Prop := ∃ f : Int → Int, w 1051 = (B 50, some (AI g 130 f)) ∧ (∀ j, inI (f j)) ∧ VlsI t n f 0 I
theorem and4 (A C I v : Bool) : ((A && C) && (I && v)) = (((v && A) && C) && I) := by cases A <;> cases C <;> cases I <;> cases v <;> rfl
theorem nIn_take {Y : Ob} {L : List Ob} {k : Nat} (h : nIn Y (L.take k) = false) : nIn Y L = false := by
  unfold nIn at h ⊢
  obtain ⟨u, hu, h3⟩ := List.all_eq_false.mp h
  exact List.all_eq_false.mpr ⟨u, List.mem_of_mem_take hu, h3⟩
theorem vr_skip {Y : Ob} {I : List Ob} {vs : Ob → Bool} {A C : Bool} (h : obV Y = false ∨ nIn Y I = false) : (A && C && I.all vs) = ((if obV Y then vs Y else true) && A && C && I.all vs) := by
  rcases h with h | h
  · rw [h]; simp
  · cases hv : obV Y with
    | false => simp
    | true =>
      have := nIn_no (vs := vs) h
      simp only [if_true]
      cases A <;> cases C <;> simp_all
theorem nIn_step {Y u : Ob} {L : List Ob} {k : Nat} (h : L[k]? = some u) : nIn Y (L.take (k + 1)) = (nIn Y (L.take k) && decide (u ≠ Y)) := by
  unfold nIn
  rw [List.take_succ, h]
  simp
set_option maxRecDepth 100000 in
set_option maxHeartbeats 4000000 in
/-- variablesOf -/
theorem m_X10_variablesOf (g : pw_P) (l : Launch) {w : pw_W} {b : Nat} {B : Nat → Nat} {x : Nat → Int} (h0 : w 1000 = (b, some (mdE B x))) {t : Int → Ob} {n : Int} {sN : Nat} {fZ : Int → Int} (hR : RS g w B t n sN fZ) (h7 : x 7 = n) (h10 : x 10 = ((sN : Nat) : Int)) (hK : RK t n) {o : Int} {X : Ob} (ho : Vl t n o X) {T1 : List Dn} {ws : Ob → Bool} {fw fi0 : Int → Int} (f1 : w 1049 = (B 48, some (AI g 400 fw))) (f2 : ∀ j, inI (fw j)) (hi1 : w 1051 = (B 50, some (AI g 130 fi0))) (hi2 : ∀ j, inI (fi0 j)) (hwf : (wf2 T1 ws X).1 = true) (hsz : (sz2 X).1 ≤ 120) : pw_M g l yX10_variablesOf cX10_variablesOf 5 none { frames := 3, cells := 0, slots := 0, locals := 67 } [.ref b, .int (iZ o)] w (fun r w' => r = none ∧ (∃ v' fw' I, w' 1000 = (b, some (mdE B (va_up (va_up x 49 v') 51 ((I.length : Nat) : Int)))) ∧ w' 1049 = (B 48, some (AI g 400 fw')) ∧ (∀ j, inI (fw' j)) ∧ MIt g w' B t n I ∧ I.length ≤ 120 ∧ ∀ vs, I.all vs = (vr2 vs X).1) ∧ ∀ k, (k ≠ 1000 ∧ k ≠ 1049 ∧ k ≠ 1051) → w' k = w k) := by
  refine pw_M.of (by decide) (Nat.le_of_ble_eq_true rfl) rfl ?_
  intro p e s m args below meth c C hr hn
  have hRn := hR.n
  have hor := Vl.rg hR ho
  have loop : ∀ (kk : Nat) (w1 : pw_W) (fw1 : Int → Int) (S : List Ob) (fi : Int → Int) (I : List Ob), szA S ≤ kk → w1 1000 = (b, some (mdE B (va_up (va_up x 49 ((S.length : Nat) : Int)) 51 ((I.length : Nat) : Int)))) → w1 1049 = (B 48, some (AI g 400 fw1)) → (∀ j, inI (fw1 j)) → w1 1051 = (B 50, some (AI g 130 fi)) → (∀ j, inI (fi j)) → VlsI t n fi 0 I → WkI t n fw1 S → wfA T1 ws S = true → szA S + I.length ≤ 120 → (∀ vs, (S.all (fun y => (vr2 vs y).1) && I.all vs) = (vr2 vs X).1) → (∀ k, (k ≠ 1000 ∧ k ≠ 1049 ∧ k ≠ 1051) → w1 k = w k) → pw_G g p l e { frames := 3, cells := 0, slots := 0, locals := 67 } s m args below meth c 5 (pw_Q g below (fun r w' => r = none ∧ (∃ v' fw' I, w' 1000 = (b, some (mdE B (va_up (va_up x 49 v') 51 ((I.length : Nat) : Int)))) ∧ w' 1049 = (B 48, some (AI g 400 fw')) ∧ (∀ j, inI (fw' j)) ∧ MIt g w' B t n I ∧ I.length ≤ 120 ∧ ∀ vs, I.all vs = (vr2 vs X).1) ∧ ∀ k, (k ≠ 1000 ∧ k ≠ 1049 ∧ k ≠ 1051) → w' k = w k) args s { frames := 3, cells := 0, slots := 0, locals := 67 }) 0 0 15 [(0, .ref b), (1, .int (iZ o))] [] w1 := by
    intro kk
    induction kk with
    | zero =>
      intro w1 fw1 S fi I hkk y0 y49 g49 y51 g51 hI hW hwS hsS hq hf1
      cases S with
      | nil =>
        have y0 : w1 1000 = (b, some (mdE B (va_up (va_up x 49 0) 51 ((I.length : Nat) : Int)))) := y0
        refine pw_aload_n (i := 0) C dX10_variablesOf_15 rfl rfl (Or.inr ⟨_, rfl⟩) ?_
        refine pw_get (j := 49) C cl_X10 fl_X10_340 (by decide) rfl y0 rfl dX10_variablesOf_16 ?_
        refine pw_stk (st' := [.int (iZ 0)]) rfl ?_
        refine pw_if_le (tgt := 102) C (by omega) dX10_variablesOf_19 (by decide) (fun h_11 => ?_) (fun h_11 => ?_)
        · exact pw_vret C hr dX10_variablesOf_102 ⟨rfl, ⟨_, fw1, I, y0, y49, g49, ⟨fi, y51, g51, hI⟩, by omega, fun vs => by have := hq vs; rw [List.all_nil, Bool.true_and] at this; exact this⟩, hf1⟩
        · exfalso; omega
      | cons Y S1 => exfalso; have := sz2_1 Y; simp only [szA] at hkk; omega
    | succ kk ih =>
      intro w1 fw1 S fi I hkk y0 y49 g49 y51 g51 hI hW hwS hsS hq hf1
      cases S with
      | nil =>
        have y0 : w1 1000 = (b, some (mdE B (va_up (va_up x 49 0) 51 ((I.length : Nat) : Int)))) := y0
        refine pw_aload_n (i := 0) C dX10_variablesOf_15 rfl rfl (Or.inr ⟨_, rfl⟩) ?_
        refine pw_get (j := 49) C cl_X10 fl_X10_340 (by decide) rfl y0 rfl dX10_variablesOf_16 ?_
        refine pw_stk (st' := [.int (iZ 0)]) rfl ?_
        refine pw_if_le (tgt := 102) C (by omega) dX10_variablesOf_19 (by decide) (fun h_11 => ?_) (fun h_11 => ?_)
        · exact pw_vret C hr dX10_variablesOf_102 ⟨rfl, ⟨_, fw1, I, y0, y49, g49, ⟨fi, y51, g51, hI⟩, by omega, fun vs => by have := hq vs; rw [List.all_nil, Bool.true_and] at this; exact this⟩, hf1⟩
        · exfalso; omega
      | cons Y S1 =>
        rw [wfA_cons, Bool.and_eq_true] at hwS
        obtain ⟨hwY, hwS⟩ := hwS
        have hst := wk_step hwY
        simp only [szA] at hkk hsS
        have hl1 := szA_len S1
        have hll : (Y :: S1).length = S1.length + 1 := rfl
        refine pw_aload_n (i := 0) C dX10_variablesOf_15 rfl rfl (Or.inr ⟨_, rfl⟩) ?_
        refine pw_get (j := 49) C cl_X10 fl_X10_340 (by decide) rfl y0 rfl dX10_variablesOf_16 ?_
        refine pw_stk (st' := [.int (iZ (((Y :: S1).length : Nat) : Int))]) rfl ?_
        refine pw_if_le (tgt := 102) C (by omega) dX10_variablesOf_19 (by decide) (fun h_51 => ?_) (fun h_51 => ?_)
        · exfalso; omega
        · refine pw_aload_n (i := 0) C dX10_variablesOf_22 rfl rfl (Or.inr ⟨_, rfl⟩) ?_
          have R_52 := hR.same (w' := w1) (fun k hk => (hf1 k (by omega)))
          refine pw_callV (As := []) (st := []) C (m_X10_walkOn g l y0 R_52 h7 h10 hK rfl y49 g49 hW hst.2.2.1 (by omega)) my_X10_walkOn ml_X10_346 (pw_rec.of C y0 cl_X10.1) rfl ⟨Nat.le_of_ble_eq_true rfl, Nat.le_of_ble_eq_true rfl⟩ ⟨by (try dsimp only); omega, by (try dsimp only); omega⟩ rfl (Nat.le_of_ble_eq_true rfl) dX10_variablesOf_23 ?_
          rintro _ w4 ⟨z, fw4, rfl, hzv, e40, e41, g41, hW4, ho4⟩
          have hzr := Vl.rg hR hzv
          refine pw_stk (st' := [.int (iZ z)]) rfl ?_
          refine pw_istore_n (i := 2) (lv' := [(0, .ref b), (1, .int (iZ o)), (2, .int (iZ z))]) C dX10_variablesOf_26 rfl (by decide) rfl ?_
          refine pw_aload_n (i := 0) C dX10_variablesOf_27 rfl rfl (Or.inr ⟨_, rfl⟩) ?_
          refine pw_iload_n (i := 2) C dX10_variablesOf_28 rfl rfl ?_
          have R_53 := R_52.same (w' := w4) (fun k hk => (ho4 k (by omega)))
          refine pw_callV (As := [.int (iZ z)]) (st := []) C (m_X10_isVariable g l e40 R_53 h7 h10 hK hzv) my_X10_isVariable ml_X10_356 (pw_rec.of C e40 cl_X10.1) rfl ⟨Nat.le_of_ble_eq_true rfl, Nat.le_of_ble_eq_true rfl⟩ ⟨by (try dsimp only); omega, by (try dsimp only); omega⟩ rfl (Nat.le_of_ble_eq_true rfl) dX10_variablesOf_29 ?_
          rintro _ _ ⟨rfl, rfl⟩
          refine pw_stk (st' := [.int (iZ (b2i (obV Y)))]) rfl ?_
          refine pw_istore_n (i := 3) (lv' := [(0, .ref b), (1, .int (iZ o)), (2, .int (iZ z)), (3, .int (iZ (b2i (obV Y))))]) C dX10_variablesOf_32 rfl (by decide) rfl ?_
          refine pw_iconst C dX10_variablesOf_33 ?_
          refine pw_istore (lv' := [(0, .ref b), (1, .int (iZ o)), (2, .int (iZ z)), (3, .int (iZ (b2i (obV Y)))), (4, .int (iZ 0))]) C dX10_variablesOf_34 (by decide) rfl ?_
          have c_54 := (ho4 1051 (by omega)).trans y51
          have z49 := e41
          have z51 := c_54
          have hf4 : ∀ k, (k ≠ 1000 ∧ k ≠ 1049 ∧ k ≠ 1051) → w4 k = w k := fun k hk => (ho4 k (by omega)).trans (hf1 k (by omega))
          have z0 : w4 1000 = (b, some (mdE B (va_up (va_up x 49 (((chO Y ++ S1).length : Nat) : Int)) 51 ((I.length : Nat) : Int)))) := e40
          have inner : ∀ (kk k : Nat) (q : Bool), k + kk = I.length → q = (obV Y && nIn Y (I.take k)) → pw_G g p l e { frames := 3, cells := 0, slots := 0, locals := 67 } s m args below meth c 5 (pw_Q g below (fun r w' => r = none ∧ (∃ v' fw' I, w' 1000 = (b, some (mdE B (va_up (va_up x 49 v') 51 ((I.length : Nat) : Int)))) ∧ w' 1049 = (B 48, some (AI g 400 fw')) ∧ (∀ j, inI (fw' j)) ∧ MIt g w' B t n I ∧ I.length ≤ 120 ∧ ∀ vs, I.all vs = (vr2 vs X).1) ∧ ∀ k, (k ≠ 1000 ∧ k ≠ 1049 ∧ k ≠ 1051) → w' k = w k) args s { frames := 3, cells := 0, slots := 0, locals := 67 }) 0 0 36 [(0, .ref b), (1, .int (iZ o)), (2, .int (iZ z)), (3, .int (iZ (b2i q))), (4, .int (iZ ((k : Nat) : Int)))] [] w4 := by
            intro kk
            induction kk with
            | zero =>
              intro k q hk hqi
              refine pw_iload C dX10_variablesOf_36 rfl ?_
              refine pw_aload_n (i := 0) C dX10_variablesOf_38 rfl rfl (Or.inr ⟨_, rfl⟩) ?_
              refine pw_get (j := 51) C cl_X10 fl_X10_353 (by decide) rfl z0 rfl dX10_variablesOf_39 ?_
              refine pw_stk (st' := [.int (iZ ((I.length : Nat) : Int)), .int (iZ ((k : Nat) : Int))]) rfl ?_
              refine pw_icmp_ge (tgt := 72) C (by omega) (by omega) dX10_variablesOf_42 (by decide) (fun h_501 => ?_) (fun h_501 => ?_)
              · refine pw_iload_n (i := 3) C dX10_variablesOf_72 rfl rfl ?_
                refine pw_if_neB (tgt := 79) C dX10_variablesOf_73 (by decide) (fun h_502 => ?_) (fun h_502 => ?_)
                · refine pw_aload_n (i := 0) C dX10_variablesOf_79 rfl rfl (Or.inr ⟨_, rfl⟩) ?_
                  refine pw_get (j := 50) C cl_X10 fl_X10_107 (by decide) rfl z0 rfl dX10_variablesOf_80 ?_
                  refine pw_stk (st' := [.ref (B 50)]) rfl ?_
                  refine pw_aload_n (i := 0) C dX10_variablesOf_83 rfl rfl (Or.inr ⟨_, rfl⟩) ?_
                  refine pw_get (j := 51) C cl_X10 fl_X10_353 (by decide) rfl z0 rfl dX10_variablesOf_84 ?_
                  refine pw_stk (st' := [.int (iZ ((I.length : Nat) : Int)), .ref (B 50)]) rfl ?_
                  refine pw_iload_n (i := 2) C dX10_variablesOf_87 rfl rfl ?_
                  refine pw_iast C z51 ⟨by omega, by omega, by omega⟩ dX10_variablesOf_88 (fun w_505 k_503 o_504 => ?_)
                  refine pw_aload_n (i := 0) C dX10_variablesOf_89 rfl rfl (Or.inr ⟨_, rfl⟩) ?_
                  refine pw_dup C dX10_variablesOf_90 rfl ?_
                  have c_506 := (o_504 1000 (by omega)).trans z0
                  refine pw_get (j := 51) C cl_X10 fl_X10_353 (by decide) rfl c_506 rfl dX10_variablesOf_91 ?_
                  refine pw_stk (st' := [.int (iZ ((I.length : Nat) : Int)), .ref b]) rfl ?_
                  refine pw_iconst C dX10_variablesOf_94 ?_
                  refine pw_iadd C dX10_variablesOf_95 ?_
                  refine pw_put (j := 51) C cl_X10 fl_X10_353 (by decide) rfl rfl rfl rfl rfl c_506 (Nat.le_of_ble_eq_true rfl) dX10_variablesOf_96 (fun w_509 k_507 o_508 => ?_)
                  have k_510 : w_509 1000 = (b, some (mdE B (va_up (va_up (va_up x 49 (((chO Y ++ S1).length : Nat) : Int)) 51 ((I.length : Nat) : Int)) 51 (((I.length : Nat) : Int) + 1)))) := k_507
                  refine pw_goto (tgt := 15) C dX10_variablesOf_99 (by decide) ?_
                  refine pw_sub [0, 1] rfl ?_
                  have c_511 := (o_508 1051 (by omega)).trans k_503
                  have hfr : obV Y = true ∧ nIn Y I = true := by have := hqi.symm.trans h_502; rw [Bool.and_eq_true, show I.take k = I from List.take_of_length_le (by omega)] at this; exact this
                  exact ih w_509 fw4 (chO Y ++ S1) _ (I ++ [Y]) (by rw [szA_app]; omega) (by rw [k_510, show (((I ++ [Y]).length : Nat) : Int) = ((I.length : Nat) : Int) + 1 by simp]; rfl) (((o_508 1049 (by omega)).trans (o_504 1049 (by omega))).trans z49) g41 c_511 (upz_inI g51 (by omega)) (by have := VlsI.add hzv hI; rw [Int.zero_add] at this; exact this) hW4 (by rw [wfA_app, hst.1, hwS]; rfl) (by rw [szA_app]; simp only [List.length_append, List.length_cons, List.length_nil]; omega) (fun vs => by rw [← hq vs, List.all_cons, vr_one hwY, if_pos hfr.1, List.all_append, List.all_append, List.all_cons, List.all_nil, Bool.and_true]; exact and4 _ _ _ _) (fun k hk => (o_508 k (by omega)).trans ((o_504 k (by omega)).trans (hf4 k (by omega))))
                · refine pw_goto (tgt := 15) C dX10_variablesOf_76 (by decide) ?_
                  refine pw_sub [0, 1] rfl ?_
                  have hfr : obV Y = false ∨ nIn Y I = false := by have := hqi.symm.trans h_502; rw [Bool.and_eq_false_iff, show I.take k = I from List.take_of_length_le (by omega)] at this; exact this
                  exact ih w4 fw4 (chO Y ++ S1) fi I (by rw [szA_app]; omega) z0 z49 g41 z51 g51 hI hW4 (by rw [wfA_app, hst.1, hwS]; rfl) (by rw [szA_app]; omega) (fun vs => by rw [← hq vs, List.all_cons, vr_one hwY, List.all_append]; exact vr_skip hfr) (fun k hk => (hf4 k (by omega)))
              · exfalso; omega
            | succ kk ihk =>
              intro k q hk hqi
              refine pw_iload C dX10_variablesOf_36 rfl ?_
              refine pw_aload_n (i := 0) C dX10_variablesOf_38 rfl rfl (Or.inr ⟨_, rfl⟩) ?_
              refine pw_get (j := 51) C cl_X10 fl_X10_353 (by decide) rfl z0 rfl dX10_variablesOf_39 ?_
              refine pw_stk (st' := [.int (iZ ((I.length : Nat) : Int)), .int (iZ ((k : Nat) : Int))]) rfl ?_
              refine pw_icmp_ge (tgt := 72) C (by omega) (by omega) dX10_variablesOf_42 (by decide) (fun h_601 => ?_) (fun h_601 => ?_)
              · exfalso; omega
              · refine pw_iload_n (i := 3) C dX10_variablesOf_45 rfl rfl ?_
                refine pw_if_eqB (tgt := 72) C dX10_variablesOf_46 (by decide) (fun h_602 => ?_) (fun h_602 => ?_)
                · refine pw_iload_n (i := 3) C dX10_variablesOf_72 rfl rfl ?_
                  refine pw_if_neB (tgt := 79) C dX10_variablesOf_73 (by decide) (fun h_603 => ?_) (fun h_603 => ?_)
                  · refine pw_aload_n (i := 0) C dX10_variablesOf_79 rfl rfl (Or.inr ⟨_, rfl⟩) ?_
                    refine pw_get (j := 50) C cl_X10 fl_X10_107 (by decide) rfl z0 rfl dX10_variablesOf_80 ?_
                    refine pw_stk (st' := [.ref (B 50)]) rfl ?_
                    refine pw_aload_n (i := 0) C dX10_variablesOf_83 rfl rfl (Or.inr ⟨_, rfl⟩) ?_
                    refine pw_get (j := 51) C cl_X10 fl_X10_353 (by decide) rfl z0 rfl dX10_variablesOf_84 ?_
                    refine pw_stk (st' := [.int (iZ ((I.length : Nat) : Int)), .ref (B 50)]) rfl ?_
                    refine pw_iload_n (i := 2) C dX10_variablesOf_87 rfl rfl ?_
                    refine pw_iast C z51 ⟨by omega, by omega, by omega⟩ dX10_variablesOf_88 (fun w_606 k_604 o_605 => ?_)
                    refine pw_aload_n (i := 0) C dX10_variablesOf_89 rfl rfl (Or.inr ⟨_, rfl⟩) ?_
                    refine pw_dup C dX10_variablesOf_90 rfl ?_
                    have c_607 := (o_605 1000 (by omega)).trans z0
                    refine pw_get (j := 51) C cl_X10 fl_X10_353 (by decide) rfl c_607 rfl dX10_variablesOf_91 ?_
                    refine pw_stk (st' := [.int (iZ ((I.length : Nat) : Int)), .ref b]) rfl ?_
                    refine pw_iconst C dX10_variablesOf_94 ?_
                    refine pw_iadd C dX10_variablesOf_95 ?_
                    refine pw_put (j := 51) C cl_X10 fl_X10_353 (by decide) rfl rfl rfl rfl rfl c_607 (Nat.le_of_ble_eq_true rfl) dX10_variablesOf_96 (fun w_610 k_608 o_609 => ?_)
                    have k_611 : w_610 1000 = (b, some (mdE B (va_up (va_up (va_up x 49 (((chO Y ++ S1).length : Nat) : Int)) 51 ((I.length : Nat) : Int)) 51 (((I.length : Nat) : Int) + 1)))) := k_608
                    refine pw_goto (tgt := 15) C dX10_variablesOf_99 (by decide) ?_
                    refine pw_sub [0, 1] rfl ?_
                    have c_612 := (o_609 1051 (by omega)).trans k_604
                    have hfr : obV Y = true ∧ nIn Y I = true := by exact absurd h_603 (by rw [h_602]; decide)
                    exact ih w_610 fw4 (chO Y ++ S1) _ (I ++ [Y]) (by rw [szA_app]; omega) (by rw [k_611, show (((I ++ [Y]).length : Nat) : Int) = ((I.length : Nat) : Int) + 1 by simp]; rfl) (((o_609 1049 (by omega)).trans (o_605 1049 (by omega))).trans z49) g41 c_612 (upz_inI g51 (by omega)) (by have := VlsI.add hzv hI; rw [Int.zero_add] at this; exact this) hW4 (by rw [wfA_app, hst.1, hwS]; rfl) (by rw [szA_app]; simp only [List.length_append, List.length_cons, List.length_nil]; omega) (fun vs => by rw [← hq vs, List.all_cons, vr_one hwY, if_pos hfr.1, List.all_append, List.all_append, List.all_cons, List.all_nil, Bool.and_true]; exact and4 _ _ _ _) (fun k hk => (o_609 k (by omega)).trans ((o_605 k (by omega)).trans (hf4 k (by omega))))
                  · refine pw_goto (tgt := 15) C dX10_variablesOf_76 (by decide) ?_
                    refine pw_sub [0, 1] rfl ?_
                    have hfr : obV Y = false ∨ nIn Y I = false := by have := hqi.symm.trans h_602; rw [Bool.and_eq_false_iff] at this; exact this.imp (fun a => a) (fun a => nIn_take a)
                    exact ih w4 fw4 (chO Y ++ S1) fi I (by rw [szA_app]; omega) z0 z49 g41 z51 g51 hI hW4 (by rw [wfA_app, hst.1, hwS]; rfl) (by rw [szA_app]; omega) (fun vs => by rw [← hq vs, List.all_cons, vr_one hwY, List.all_append]; exact vr_skip hfr) (fun k hk => (hf4 k (by omega)))
                · refine pw_aload_n (i := 0) C dX10_variablesOf_49 rfl rfl (Or.inr ⟨_, rfl⟩) ?_
                  refine pw_get (j := 50) C cl_X10 fl_X10_107 (by decide) rfl z0 rfl dX10_variablesOf_50 ?_
                  refine pw_stk (st' := [.ref (B 50)]) rfl ?_
                  refine pw_iload C dX10_variablesOf_53 rfl ?_
                  have g_613 := g51 ((k : Nat) : Int)
                  refine pw_iald C z51 ⟨by omega, by omega, by omega⟩ dX10_variablesOf_55 ?_
                  refine pw_iload_n (i := 2) C dX10_variablesOf_56 rfl rfl ?_
                  refine pw_icmp_eq (tgt := 64) C (by omega) (by omega) dX10_variablesOf_57 (by decide) (fun h_614 => ?_) (fun h_614 => ?_)
                  · refine pw_iconst C dX10_variablesOf_64 ?_
                    refine pw_istore_n (i := 3) (lv' := [(0, .ref b), (1, .int (iZ o)), (2, .int (iZ z)), (3, .int (iZ 0)), (4, .int (iZ ((k : Nat) : Int)))]) C dX10_variablesOf_65 rfl (by decide) rfl ?_
                    refine pw_iinc (lv' := [(0, .ref b), (1, .int (iZ o)), (2, .int (iZ z)), (3, .int (iZ 0)), (4, .int (iZ (((k : Nat) : Int) + 1)))]) C dX10_variablesOf_66 rfl (by decide) rfl ?_
                    refine pw_goto (tgt := 36) C dX10_variablesOf_69 (by decide) ?_
                    rw [show ((k : Nat) : Int) + 1 = ((k + 1 : Nat) : Int) by omega]
                    obtain ⟨u, hu⟩ : ∃ u, I[k]? = some u := ⟨_, List.getElem?_eq_getElem (by omega)⟩
                    have huv := VlsI.mem k hI hu
                    rw [Int.zero_add] at huv
                    have hpr := hqi.symm.trans h_602
                    rw [Bool.and_eq_true] at hpr
                    exact ihk (k + 1) false (by omega) (by rw [nIn_step hu, decide_eq_false (p := u ≠ Y) (fun q => q ((RS.inj hR huv hzv).mp (by omega)))]; simp)
                  · refine pw_iconst C dX10_variablesOf_60 ?_
                    refine pw_goto (tgt := 65) C dX10_variablesOf_61 (by decide) ?_
                    refine pw_istore_n (i := 3) (lv' := [(0, .ref b), (1, .int (iZ o)), (2, .int (iZ z)), (3, .int (iZ 1)), (4, .int (iZ ((k : Nat) : Int)))]) C dX10_variablesOf_65 rfl (by decide) rfl ?_
                    refine pw_iinc (lv' := [(0, .ref b), (1, .int (iZ o)), (2, .int (iZ z)), (3, .int (iZ 1)), (4, .int (iZ (((k : Nat) : Int) + 1)))]) C dX10_variablesOf_66 rfl (by decide) rfl ?_
                    refine pw_goto (tgt := 36) C dX10_variablesOf_69 (by decide) ?_
                    rw [show ((k : Nat) : Int) + 1 = ((k + 1 : Nat) : Int) by omega]
                    obtain ⟨u, hu⟩ : ∃ u, I[k]? = some u := ⟨_, List.getElem?_eq_getElem (by omega)⟩
                    have huv := VlsI.mem k hI hu
                    rw [Int.zero_add] at huv
                    have hpr := hqi.symm.trans h_602
                    rw [Bool.and_eq_true] at hpr
                    exact ihk (k + 1) true (by omega) (by rw [nIn_step hu, hpr.1, hpr.2, decide_eq_true (p := u ≠ Y) (fun e => absurd ((RS.inj hR huv hzv).mpr e) (by omega))]; rfl)
          exact inner I.length 0 (obV Y) (by omega) (by simp [nIn])
  refine pw_aload_n (i := 0) C dX10_variablesOf_0 rfl rfl (Or.inr ⟨_, rfl⟩) ?_
  refine pw_iconst C dX10_variablesOf_1 ?_
  refine pw_put (j := 51) C cl_X10 fl_X10_353 (by decide) rfl rfl rfl rfl rfl h0 (Nat.le_of_ble_eq_true rfl) dX10_variablesOf_2 (fun w_303 k_301 o_302 => ?_)
  have k_304 : w_303 1000 = (b, some (mdE B (va_up x 51 0))) := k_301
  refine pw_aload_n (i := 0) C dX10_variablesOf_5 rfl rfl (Or.inr ⟨_, rfl⟩) ?_
  refine pw_iconst C dX10_variablesOf_6 ?_
  refine pw_put (j := 49) C cl_X10 fl_X10_340 (by decide) rfl rfl rfl rfl rfl k_304 (Nat.le_of_ble_eq_true rfl) dX10_variablesOf_7 (fun w_307 k_305 o_306 => ?_)
  have k_308 : w_307 1000 = (b, some (mdE B (va_up (va_up x 51 0) 49 0))) := k_305
  refine pw_aload_n (i := 0) C dX10_variablesOf_10 rfl rfl (Or.inr ⟨_, rfl⟩) ?_
  refine pw_iload_n (i := 1) C dX10_variablesOf_11 rfl rfl ?_
  have c_309 := ((o_306 1049 (by omega)).trans (o_302 1049 (by omega))).trans f1
  refine pw_callV (As := [.int (iZ o)]) (st := []) C (m_X10_walkTo g l k_308 (v := 0) rfl c_309 f2 (c0 := o) (by omega)) my_X10_walkTo ml_X10_343 (pw_rec.of C k_308 cl_X10.1) rfl ⟨Nat.le_of_ble_eq_true rfl, Nat.le_of_ble_eq_true rfl⟩ ⟨by (try dsimp only); omega, by (try dsimp only); omega⟩ rfl (Nat.le_of_ble_eq_true rfl) dX10_variablesOf_12 ?_
  rintro _ w4 ⟨rfl, e40, e41, ho4⟩
  refine pw_stk (st' := []) rfl ?_
  exact loop 120 w4 _ [X] fi0 [] (by simp only [szA]; omega) (by rw [e40]; rfl) e41 (upz_inI f2 (by omega)) (((ho4 1051 (by omega)).trans ((o_306 1051 (by omega)).trans (o_302 1051 (by omega)))).trans hi1) hi2 trivial ⟨by show Vl t n (upz fw 0 o 0) X; rw [upz_self]; exact ho, trivial⟩ (by simp only [wfA, List.all_cons, hwf]; rfl) (by simp only [szA, List.length_nil]; omega) (fun vs => by simp) (fun k hk => (ho4 k (by omega)).trans ((o_306 k (by omega)).trans (o_302 k (by omega))))

